set_option maxRecDepth 100000 in
set_option maxHeartbeats 4000000 in
theorem z_MO_split2 {X : ab_X} {d : Nat} {o : Nat → Nat} {G : ab_G} {m_thrown : Int} {m_taped : Int} {m_length : Int} {m_out : Int} {m_wide : Int} {m_gathered : Int} {m_sets : Int} {m_ranges : Int} {m_nodes : Int} {m_at : Int} {m_flags : Int} {m_fault : Int} {m_place : Int} {m_numbered : Int} {m_depth : Int} {m_value : Int} {m_isNot : Int} {m_least0 : Int} {m_most0 : Int} {m_slot : Int} {m_work : Int} {m_got : Int} {m_rowMany : Int} {m_charAt : Int} {m_charWide : Int} {m_trail : Int} {m_isMatch : Int} {m_matchGroups : Int} {m_allFrom : Int} {m_allBefore : Int} {m_founds : Int} {m_pieces : Int} {m_writtenMany : Int} {m_templateWide : Int} {m_tooMuch : Int} {T : Int → Int} {N : Int → Int} {W : Int → Int} {CA : Int → Int} {CM : Int → Int} {CL : Int → Int} {CH : Int → Int} {SN : Int → Int} {RO : Int → Int} {LZ : Int → Int} {SM : Int → Int} {SA : Int → Int} {RL : Int → Int} {RH : Int → Int} {k : Int} {dp : Int} {x : Int} {y : Int} {ns : Int} {cl : Int} (h80 : cc o G 80 280 (ab_ob 12 (mof m_thrown m_taped m_length m_out m_wide m_gathered m_sets m_ranges m_nodes m_at m_flags m_fault m_place m_numbered m_depth m_value m_isNot m_least0 m_most0 m_slot m_work m_got m_rowMany m_charAt m_charWide m_trail m_isMatch m_matchGroups m_allFrom m_allBefore m_founds m_pieces m_writtenMany m_templateWide m_tooMuch))) (h101 : cc o G 101 301 (zb 4200 LZ)) (h133 : cc o G 133 333 (za 40000 RO)) (h118 : cc o G 118 318 (za 75000 T)) (h119 : cc o G 119 319 (za 75000 N)) (h120 : cc o G 120 320 (za 75000 W)) (h117 : cc o G 117 317 (za 6 SN)) (n18 : ab_n0 = 18) (csl : 0 ≤ m_slot ∧ m_slot ≤ 5) (cr : 0 ≤ m_rowMany ∧ m_rowMany ≤ 1249) (ckx : 0 ≤ k ∧ k < 4200) (jlz : rgs LZ 4200 0 1) (gro : rgs RO 40000 0 12499) (gt : rgs T 75000 0 6) (gn : rgs N 75000 (-1) 12499) (gw : rgs W 75000 (-1) 12499) (gsn : rgs SN 6 0 12500) (ch : 0 ≤ dp ∧ dp ≤ 31 ∧ 0 ≤ (SN m_slot) ∧ (SN m_slot) + dp + 1 ≤ 12500 ∧ 0 ≤ x ∧ x + 32 ≤ (32 * m_rowMany) ∧ 0 ≤ y ∧ y + 32 ≤ (32 * m_rowMany)) (jf_x : rokk RO x (dp + 1) (SN m_slot)) (jf_y : rokk RO y (dp + 1) (SN m_slot)) (jk : tka T W CA CM SM SA RL RH CL CH (12500 * m_slot) (SN m_slot) m_slot cl ns) (hd : 4 ≤ d) : ab_F X d y_MO_split2 (.code y_MO_split2 b_MO_split2 5 (some (.int))) [vR 80, vz k, vz x, vz y, vz dp] G (fun oc G2 => ∃ RO2 : Int → Int, ∃ T2 : Int → Int, ∃ N2 : Int → Int, ∃ W2 : Int → Int, ∃ SN2 : Int → Int, oc = .returned (some (vz (32 * m_rowMany))) ∧ fx o o [280, 333, 318, 319, 320, 317] G G2 ∧ G2.length = G.length ∧ ab_slots G2 = ab_slots G ∧ cc o G2 80 280 (ab_ob 12 (mof m_thrown m_taped m_length m_out m_wide m_gathered m_sets m_ranges m_nodes m_at m_flags m_fault m_place m_numbered m_depth m_value m_isNot m_least0 m_most0 m_slot m_work m_got (m_rowMany + 1) m_charAt m_charWide m_trail m_isMatch m_matchGroups m_allFrom m_allBefore m_founds m_pieces m_writtenMany m_templateWide m_tooMuch)) ∧ cc o G2 133 333 (za 40000 RO2) ∧ cc o G2 118 318 (za 75000 T2) ∧ cc o G2 119 319 (za 75000 N2) ∧ cc o G2 120 320 (za 75000 W2) ∧ cc o G2 117 317 (za 6 SN2) ∧ (rgs RO2 40000 0 12499) ∧ (rgs T2 75000 0 6) ∧ (rgs N2 75000 (-1) 12499) ∧ (rgs W2 75000 (-1) 12499) ∧ (rgs SN2 6 0 12500) ∧ ((SN m_slot) ≤ SN2 m_slot ∧ SN2 m_slot ≤ (SN m_slot) + dp + 1) ∧ (rokk RO2 (32 * m_rowMany) (dp + 1) (SN2 m_slot)) ∧ (rsm RO RO2 (32 * m_rowMany)) ∧ (sgn T2 N2 W2 (12500 * m_slot) (SN m_slot) (SN2 m_slot)) ∧ (stx T N W CA CM T2 N2 W2 CA CM (12500 * m_slot) (SN m_slot)) ∧ (sno SN SN2 m_slot) ∧ (tka T2 W2 CA CM SM SA RL RH CL CH (12500 * m_slot) (SN2 m_slot) m_slot cl ns) ∧ (rEl T2 N2 W2 RO2 m_slot (SN m_slot) (SN2 m_slot) (32 * m_rowMany) (dp + 1) (LZ k) (fun i => RO (x + i)) (fun i => RO (y + i)))) := by
  refine ab_F_of (by decide +kernel) (Nat.le_of_ble_eq_true rfl) ?_
  obtain ⟨Q, hQ⟩ : ∃ z : Outcome → ab_G → Prop, z = (fun oc G2 => ∃ RO2 : Int → Int, ∃ T2 : Int → Int, ∃ N2 : Int → Int, ∃ W2 : Int → Int, ∃ SN2 : Int → Int, oc = .returned (some (vz (32 * m_rowMany))) ∧ fx o o [280, 333, 318, 319, 320, 317] G G2 ∧ G2.length = G.length ∧ ab_slots G2 = ab_slots G ∧ cc o G2 80 280 (ab_ob 12 (mof m_thrown m_taped m_length m_out m_wide m_gathered m_sets m_ranges m_nodes m_at m_flags m_fault m_place m_numbered m_depth m_value m_isNot m_least0 m_most0 m_slot m_work m_got (m_rowMany + 1) m_charAt m_charWide m_trail m_isMatch m_matchGroups m_allFrom m_allBefore m_founds m_pieces m_writtenMany m_templateWide m_tooMuch)) ∧ cc o G2 133 333 (za 40000 RO2) ∧ cc o G2 118 318 (za 75000 T2) ∧ cc o G2 119 319 (za 75000 N2) ∧ cc o G2 120 320 (za 75000 W2) ∧ cc o G2 117 317 (za 6 SN2) ∧ (rgs RO2 40000 0 12499) ∧ (rgs T2 75000 0 6) ∧ (rgs N2 75000 (-1) 12499) ∧ (rgs W2 75000 (-1) 12499) ∧ (rgs SN2 6 0 12500) ∧ ((SN m_slot) ≤ SN2 m_slot ∧ SN2 m_slot ≤ (SN m_slot) + dp + 1) ∧ (rokk RO2 (32 * m_rowMany) (dp + 1) (SN2 m_slot)) ∧ (rsm RO RO2 (32 * m_rowMany)) ∧ (sgn T2 N2 W2 (12500 * m_slot) (SN m_slot) (SN2 m_slot)) ∧ (stx T N W CA CM T2 N2 W2 CA CM (12500 * m_slot) (SN m_slot)) ∧ (sno SN SN2 m_slot) ∧ (tka T2 W2 CA CM SM SA RL RH CL CH (12500 * m_slot) (SN2 m_slot) m_slot cl ns) ∧ (rEl T2 N2 W2 RO2 m_slot (SN m_slot) (SN2 m_slot) (32 * m_rowMany) (dp + 1) (LZ k) (fun i => RO (x + i)) (fun i => RO (y + i)))) := ⟨_, rfl⟩
  rw [← hQ]
  change ab_W X (ab_pl y_MO_split2 b_MO_split2 5 (some (.int))) d G 0 [some (vR 80), some (vz k), some (vz x), some (vz y), some (vz dp)] [] Q
  have hfr : fx o o [280, 333, 318, 319, 320, 317] G G := fx.rf
  have hlen : G.length = G.length := rfl
  have hsl : ab_slots G = ab_slots G := rfl
  refine ab_aload_n d_MO_split2_0 rfl ?_
  refine ab_getf (fs := mof m_thrown m_taped m_length m_out m_wide m_gathered m_sets m_ranges m_nodes m_at m_flags m_fault m_place m_numbered m_depth m_value m_isNot m_least0 m_most0 m_slot m_work m_got m_rowMany m_charAt m_charWide m_trail m_isMatch m_matchGroups m_allFrom m_allBefore m_founds m_pieces m_writtenMany m_templateWide m_tooMuch) f_MO_72 d_MO_split2_1 h80.2.2 rfl ?_
  refine ab_iload_n d_MO_split2_4 rfl ?_
  refine zz_zald d_MO_split2_5 h101 (by omega) ?_
  have hq1 := jlz k (by omega) (by omega)
  refine zz_if_eq (tgt := 20) d_MO_split2_6 (by decide) (by omega) (fun c2 => ?_) (fun c2 => ?_)
  · refine ab_aload_n d_MO_split2_20 rfl ?_
    refine ab_iload_n d_MO_split2_21 rfl ?_
    refine ab_iload_n d_MO_split2_22 rfl ?_
    refine ab_iload d_MO_split2_23 rfl ?_
    refine ab_callV (d' := d - 1) (as := [vz x, vz y, vz dp]) (st := []) (r := _) (z_MO_eachOf (o := o) (m_thrown := m_thrown) (m_taped := m_taped) (m_length := m_length) (m_out := m_out) (m_wide := m_wide) (m_gathered := m_gathered) (m_sets := m_sets) (m_ranges := m_ranges) (m_nodes := m_nodes) (m_at := m_at) (m_flags := m_flags) (m_fault := m_fault) (m_place := m_place) (m_numbered := m_numbered) (m_depth := m_depth) (m_value := m_value) (m_isNot := m_isNot) (m_least0 := m_least0) (m_most0 := m_most0) (m_slot := m_slot) (m_work := m_work) (m_got := m_got) (m_rowMany := m_rowMany) (m_charAt := m_charAt) (m_charWide := m_charWide) (m_trail := m_trail) (m_isMatch := m_isMatch) (m_matchGroups := m_matchGroups) (m_allFrom := m_allFrom) (m_allBefore := m_allBefore) (m_founds := m_founds) (m_pieces := m_pieces) (m_writtenMany := m_writtenMany) (m_templateWide := m_templateWide) (m_tooMuch := m_tooMuch) (T := T) (N := N) (W := W) (CA := CA) (CM := CM) (CL := CL) (CH := CH) (SN := SN) (RO := RO) (SM := SM) (SA := SA) (RL := RL) (RH := RH) (dp := dp) (x := x) (y := y) (ns := ns) (cl := cl) h80 h133 h118 h119 h120 h117 (by omega) (by omega) (by omega) gro gt gn gw gsn (by omega) jf_x jf_y jk (by omega)) (fun oc G2 h => by rcases h with ⟨_, _, _, _, _, h, _⟩ <;> exact ⟨_, h⟩) (by omega) m_MO_eachOf ml_MO_467 im_MO_eachOf se_MO_eachOf c_MO h80.2.2 (Nat.le_of_ble_eq_true rfl) d_MO_split2_25 rfl ?_
    intro v G3 hq
    rcases hq with ⟨RO24, T25, N26, W27, SN28, hv, hfk, hlk, hsk, hN80, hN133, hN118, hN119, hN120, hN117, hq9, hq10, hq11, hq12, hq13, hq14, hq15, hq16, hq17, hq18, hq19, hq20, hq21⟩
    cases hv
    have h101 := hfk.get h101 (by decide)
    have hfr := hfr.tr hfk (by decide)
    have hlen := hlk.trans hlen
    have hsl := hsk.trans hsl
    have h80 := hN80
    have h133 := hN133
    have h118 := hN118
    have h119 := hN119
    have h120 := hN120
    have h117 := hN117
    change ab_W _ _ _ G3 28 [some (vR 80), some (vz k), some (vz x), some (vz y), some (vz dp)] [vz (32 * m_rowMany)] _
    refine zz_iret rfl d_MO_split2_28 ?_
    rw [hQ]; exact ⟨_, _, _, _, _, rfl, hfr, hlen, hsl, h80, h133, h118, h119, h120, h117, (by first | exact hq9 | exact rgs_w hq9 (by omega)), (by first | exact hq10 | exact rgs_w hq10 (by omega)), (by first | exact hq11 | exact rgs_w hq11 (by omega)), (by first | exact hq12 | exact rgs_w hq12 (by omega)), (by first | exact hq13 | exact rgs_w hq13 (by omega)), (by omega), (by exact hq15), (by exact hq16), (by exact hq17), (by exact hq18), (by exact hq19), (by exact hq20), (by exact rEl_0 hq21 (by omega))⟩
  · refine ab_aload_n d_MO_split2_9 rfl ?_
    refine ab_iload_n d_MO_split2_10 rfl ?_
    refine ab_iload_n d_MO_split2_11 rfl ?_
    refine ab_iload d_MO_split2_12 rfl ?_
    refine ab_callV (d' := d - 1) (as := [vz y, vz x, vz dp]) (st := []) (r := _) (z_MO_eachOf (o := o) (m_thrown := m_thrown) (m_taped := m_taped) (m_length := m_length) (m_out := m_out) (m_wide := m_wide) (m_gathered := m_gathered) (m_sets := m_sets) (m_ranges := m_ranges) (m_nodes := m_nodes) (m_at := m_at) (m_flags := m_flags) (m_fault := m_fault) (m_place := m_place) (m_numbered := m_numbered) (m_depth := m_depth) (m_value := m_value) (m_isNot := m_isNot) (m_least0 := m_least0) (m_most0 := m_most0) (m_slot := m_slot) (m_work := m_work) (m_got := m_got) (m_rowMany := m_rowMany) (m_charAt := m_charAt) (m_charWide := m_charWide) (m_trail := m_trail) (m_isMatch := m_isMatch) (m_matchGroups := m_matchGroups) (m_allFrom := m_allFrom) (m_allBefore := m_allBefore) (m_founds := m_founds) (m_pieces := m_pieces) (m_writtenMany := m_writtenMany) (m_templateWide := m_templateWide) (m_tooMuch := m_tooMuch) (T := T) (N := N) (W := W) (CA := CA) (CM := CM) (CL := CL) (CH := CH) (SN := SN) (RO := RO) (SM := SM) (SA := SA) (RL := RL) (RH := RH) (dp := dp) (x := y) (y := x) (ns := ns) (cl := cl) h80 h133 h118 h119 h120 h117 (by omega) (by omega) (by omega) gro gt gn gw gsn (by omega) jf_y jf_x jk (by omega)) (fun oc G2 h => by rcases h with ⟨_, _, _, _, _, h, _⟩ <;> exact ⟨_, h⟩) (by omega) m_MO_eachOf ml_MO_467 im_MO_eachOf se_MO_eachOf c_MO h80.2.2 (Nat.le_of_ble_eq_true rfl) d_MO_split2_14 rfl ?_
    intro v G22 hq
    rcases hq with ⟨RO223, T224, N225, W226, SN227, hv, hfk, hlk, hsk, hN80, hN133, hN118, hN119, hN120, hN117, hq28, hq29, hq30, hq31, hq32, hq33, hq34, hq35, hq36, hq37, hq38, hq39, hq40⟩
    cases hv
    have h101 := hfk.get h101 (by decide)
    have hfr := hfr.tr hfk (by decide)
    have hlen := hlk.trans hlen
    have hsl := hsk.trans hsl
    have h80 := hN80
    have h133 := hN133
    have h118 := hN118
    have h119 := hN119
    have h120 := hN120
    have h117 := hN117
    change ab_W _ _ _ G22 17 [some (vR 80), some (vz k), some (vz x), some (vz y), some (vz dp)] [vz (32 * m_rowMany)] _
    refine ab_goto (tgt := 28) d_MO_split2_17 (by decide) ?_
    refine zz_iret rfl d_MO_split2_28 ?_
    rw [hQ]; exact ⟨_, _, _, _, _, rfl, hfr, hlen, hsl, h80, h133, h118, h119, h120, h117, (by first | exact hq28 | exact rgs_w hq28 (by omega)), (by first | exact hq29 | exact rgs_w hq29 (by omega)), (by first | exact hq30 | exact rgs_w hq30 (by omega)), (by first | exact hq31 | exact rgs_w hq31 (by omega)), (by first | exact hq32 | exact rgs_w hq32 (by omega)), (by omega), (by exact hq34), (by exact hq35), (by exact hq36), (by exact hq37), (by exact hq38), (by exact hq39), (by exact rEl_1 hq40 (by omega))⟩
set_option maxRecDepth 100000 in
set_option maxHeartbeats 4000000 in
theorem z_MO_goRow_0 {X : ab_X} {d : Nat} {o : Nat → Nat} {G : ab_G} {m_thrown : Int} {m_taped : Int} {m_length : Int} {m_out : Int} {m_wide : Int} {m_gathered : Int} {m_sets : Int} {m_ranges : Int} {m_nodes : Int} {m_at : Int} {m_flags : Int} {m_fault : Int} {m_place : Int} {m_numbered : Int} {m_depth : Int} {m_value : Int} {m_isNot : Int} {m_least0 : Int} {m_most0 : Int} {m_slot : Int} {m_work : Int} {m_got : Int} {m_rowMany : Int} {m_charAt : Int} {m_charWide : Int} {m_trail : Int} {m_isMatch : Int} {m_matchGroups : Int} {m_allFrom : Int} {m_allBefore : Int} {m_founds : Int} {m_pieces : Int} {m_writtenMany : Int} {m_templateWide : Int} {m_tooMuch : Int} {T : Int → Int} {N : Int → Int} {W : Int → Int} {CA : Int → Int} {CM : Int → Int} {CL : Int → Int} {CH : Int → Int} {SN : Int → Int} {CC : Int → Int} {RO : Int → Int} {WP : Int → Int} {WD : Int → Int} {WT : Int → Int} {WG : Int → Int} {WS : Int → Int} {K : Int → Int} {O : Int → Int} {Fi : Int → Int} {Be : Int → Int} {Le : Int → Int} {Mo : Int → Int} {Z : Int → Int} {LZ : Int → Int} {SM : Int → Int} {SA : Int → Int} {RL : Int → Int} {RH : Int → Int} {w : Int} {ns : Int} {pa : Int → Int} {po : Int → Int} {MN : Int → Int} {dl : Int → Int} {st : Int → Int} {ht : Int → Int} {hh : Int → Int} {PS : Int → Int → Int} {T_ : Int} {QF : Int → Int} {QL : Int → Int} {AF : Int → Int} {AL : Int → Int} {SD : Int → Int} {nd : Int} (h80 : cc o G 80 280 (ab_ob 12 (mof m_thrown m_taped m_length m_out m_wide m_gathered m_sets m_ranges m_nodes m_at m_flags m_fault m_place m_numbered m_depth m_value m_isNot m_least0 m_most0 m_slot m_work m_got m_rowMany m_charAt m_charWide m_trail m_isMatch m_matchGroups m_allFrom m_allBefore m_founds m_pieces m_writtenMany m_templateWide m_tooMuch))) (h94 : cc o G 94 294 (za 4200 K)) (h95 : cc o G 95 295 (za 4200 O)) (h96 : cc o G 96 296 (za 4200 Fi)) (h97 : cc o G 97 297 (za 4200 Be)) (h98 : cc o G 98 298 (za 4200 Le)) (h99 : cc o G 99 299 (za 4200 Mo)) (h100 : cc o G 100 300 (zl 4200 Z)) (h101 : cc o G 101 301 (zb 4200 LZ)) (h90 : cc o G 90 290 (za 2100 SM)) (h89 : cc o G 89 289 (za 2100 SA)) (h91 : cc o G 91 291 (za 24000 RL)) (h92 : cc o G 92 292 (za 24000 RH)) (h118 : cc o G 118 318 (za 75000 T)) (h119 : cc o G 119 319 (za 75000 N)) (h120 : cc o G 120 320 (za 75000 W)) (h121 : cc o G 121 321 (za 75000 CA)) (h122 : cc o G 122 322 (za 75000 CM)) (h123 : cc o G 123 323 (za 3600 CL)) (h124 : cc o G 124 324 (za 3600 CH)) (h117 : cc o G 117 317 (za 6 SN)) (h125 : cc o G 125 325 (za 6 CC)) (h133 : cc o G 133 333 (za 40000 RO)) (h128 : cc o G 128 328 (za 300 WP)) (h129 : cc o G 129 329 (za 300 WD)) (h130 : cc o G 130 330 (za 300 WT)) (h131 : cc o G 131 331 (za 300 WG)) (h132 : cc o G 132 332 (za 300 WS)) (n18 : ab_n0 = 18) (csl : 0 ≤ m_slot ∧ m_slot ≤ 5) (jrl : rgs RL 24000 0 1114111) (jrh : rgs RH 24000 0 1114111) (jk : rgs K 4200 0 7) (jo : rgs O 4200 (-1) 3000) (jfi : rgs Fi 4200 (-1) 4199) (jbe : rgs Be 4200 (-1) 4199) (jle : rgs Le 4200 0 1000) (jmo : rgs Mo 4200 (-1) 1000) (jz : rgs Z 4200 (-1) 1000000000000) (jlz : rgs LZ 4200 0 1) (jsm : rgs SM 2100 0 24000) (jsa : rgs SA 2100 0 24000) (gt : rgs T 75000 0 6) (gn : rgs N 75000 (-1) 12499) (gw : rgs W 75000 (-1) 12499) (gca : rgs CA 75000 0 3600) (gcm : rgs CM 75000 0 24000) (gcl : rgs CL 3600 0 1114111) (gch : rgs CH 3600 0 1114111) (gsn : rgs SN 6 0 12500) (gcc : rgs CC 6 0 600) (gro : rgs RO 40000 0 12499) (gwp : rgs WP 300 0 4199) (gwd : rgs WD 300 0 31) (gwt : rgs WT 300 0 39968) (gwg : rgs WG 300 0 39968) (gws : rgs WS 300 0 4300) (jka : tka T W CA CM SM SA RL RH CL CH (12500 * m_slot) (SN m_slot) m_slot (CC m_slot) ns) (jss : sas SA SM ns) (cst : 0 ≤ m_rowMany ∧ m_rowMany ≤ 1250 ∧ 0 ≤ (SN m_slot) ∧ (SN m_slot) ≤ 12500 ∧ 0 ≤ ns ∧ ns ≤ 2100) (cw : 0 ≤ w ∧ m_work = w + 1 ∧ w < 299) (cx : 0 ≤ WP w ∧ WP w < nd ∧ 0 ≤ nd ∧ nd ≤ 4200 ∧ 0 ≤ WD w ∧ WD w ≤ 31 ∧ 0 ≤ WT w ∧ WT w + 32 ≤ 32 * m_rowMany) (jG : rtG K O Fi Be Le Mo Z SM QF QL AF AL SD nd ns 0 pa po MN dl st ht hh PS T_) (ck : K (WP w) = 4) (jf : rtF nd pa po MN (WP w) (Fi (WP w))) (cws : 0 ≤ WS w ∧ WS w ≤ 4200) (cs0 : WS w = 0) (jwg : rokk RO (WG w) (WD w + 1) (SN m_slot)) (cwg : 0 ≤ WG w ∧ WG w + 32 ≤ 32 * m_rowMany) (hd : 3 ≤ d) : ab_F X d y_MO_goRow (.code y_MO_goRow b_MO_goRow 3 none) [vR 80, vz w] G (fun oc G2 => (∃ g2 : Int, ∃ WP2 : Int → Int, ∃ WD2 : Int → Int, ∃ WT2 : Int → Int, ∃ WG2 : Int → Int, ∃ WS2 : Int → Int, oc = .returned none ∧ fx o o [280, 328, 329, 330, 331, 332] G G2 ∧ G2.length = G.length ∧ ab_slots G2 = ab_slots G ∧ cc o G2 80 280 (ab_ob 12 (mof m_thrown m_taped m_length m_out m_wide m_gathered m_sets m_ranges m_nodes m_at m_flags m_fault m_place m_numbered m_depth m_value m_isNot m_least0 m_most0 m_slot (m_work - 1) g2 m_rowMany m_charAt m_charWide m_trail m_isMatch m_matchGroups m_allFrom m_allBefore m_founds m_pieces m_writtenMany m_templateWide m_tooMuch)) ∧ cc o G2 128 328 (za 300 WP2) ∧ cc o G2 129 329 (za 300 WD2) ∧ cc o G2 130 330 (za 300 WT2) ∧ cc o G2 131 331 (za 300 WG2) ∧ cc o G2 132 332 (za 300 WS2) ∧ (rgs WP2 300 0 4199) ∧ (rgs WD2 300 0 31) ∧ (rgs WT2 300 0 39968) ∧ (rgs WG2 300 0 39968) ∧ (rgs WS2 300 0 4300) ∧ (fsm WP WD WT WG WS WP2 WD2 WT2 WG2 WS2 w) ∧ (g2 = WG w) ∧ (MN (WP w) ≤ WS w ∧ 0 ≤ MN (WP w))) ∨ (∃ c2 : Int, ∃ t2 : Int, ∃ u2 : Int, ∃ WP2 : Int → Int, ∃ WD2 : Int → Int, ∃ WT2 : Int → Int, ∃ WG2 : Int → Int, ∃ WS2 : Int → Int, oc = .returned none ∧ fx o o [280, 328, 329, 330, 331, 332] G G2 ∧ G2.length = G.length ∧ ab_slots G2 = ab_slots G ∧ cc o G2 80 280 (ab_ob 12 (mof m_thrown m_taped m_length m_out m_wide m_gathered m_sets m_ranges m_nodes m_at m_flags m_fault m_place m_numbered m_depth m_value m_isNot m_least0 m_most0 m_slot (m_work + 1) m_got m_rowMany m_charAt m_charWide m_trail m_isMatch m_matchGroups m_allFrom m_allBefore m_founds m_pieces m_writtenMany m_templateWide m_tooMuch)) ∧ cc o G2 128 328 (za 300 WP2) ∧ cc o G2 129 329 (za 300 WD2) ∧ cc o G2 130 330 (za 300 WT2) ∧ cc o G2 131 331 (za 300 WG2) ∧ cc o G2 132 332 (za 300 WS2) ∧ (rgs WP2 300 0 4199) ∧ (rgs WD2 300 0 31) ∧ (rgs WT2 300 0 39968) ∧ (rgs WG2 300 0 39968) ∧ (rgs WS2 300 0 4300) ∧ (fsm WP WD WT WG WS WP2 WD2 WT2 WG2 WS2 w) ∧ (WP2 m_work = c2) ∧ (WD2 m_work = WD w) ∧ (WT2 m_work = t2) ∧ (WG2 m_work = t2) ∧ (WS2 m_work = 0) ∧ (WP2 w = WP w) ∧ (WD2 w = WD w) ∧ (WT2 w = WT w) ∧ (WG2 w = u2) ∧ (WS2 w = (WS w + 1)) ∧ (0 ≤ c2 ∧ c2 < nd) ∧ (t2 = WG w) ∧ (u2 = WG w) ∧ (WS w < MN (WP w) ∧ MN (WP w) ≤ 4200) ∧ (pa c2 = WP w ∧ po c2 = MN (WP w) - 1 - WS w) ∧ (nthI Fi Be (WP w) (MN (WP w) - 1 - WS w) c2))) := by
  refine ab_F_of (by decide +kernel) (Nat.le_of_ble_eq_true rfl) ?_
  obtain ⟨Q, hQ⟩ : ∃ z : Outcome → ab_G → Prop, z = (fun oc G2 => (∃ g2 : Int, ∃ WP2 : Int → Int, ∃ WD2 : Int → Int, ∃ WT2 : Int → Int, ∃ WG2 : Int → Int, ∃ WS2 : Int → Int, oc = .returned none ∧ fx o o [280, 328, 329, 330, 331, 332] G G2 ∧ G2.length = G.length ∧ ab_slots G2 = ab_slots G ∧ cc o G2 80 280 (ab_ob 12 (mof m_thrown m_taped m_length m_out m_wide m_gathered m_sets m_ranges m_nodes m_at m_flags m_fault m_place m_numbered m_depth m_value m_isNot m_least0 m_most0 m_slot (m_work - 1) g2 m_rowMany m_charAt m_charWide m_trail m_isMatch m_matchGroups m_allFrom m_allBefore m_founds m_pieces m_writtenMany m_templateWide m_tooMuch)) ∧ cc o G2 128 328 (za 300 WP2) ∧ cc o G2 129 329 (za 300 WD2) ∧ cc o G2 130 330 (za 300 WT2) ∧ cc o G2 131 331 (za 300 WG2) ∧ cc o G2 132 332 (za 300 WS2) ∧ (rgs WP2 300 0 4199) ∧ (rgs WD2 300 0 31) ∧ (rgs WT2 300 0 39968) ∧ (rgs WG2 300 0 39968) ∧ (rgs WS2 300 0 4300) ∧ (fsm WP WD WT WG WS WP2 WD2 WT2 WG2 WS2 w) ∧ (g2 = WG w) ∧ (MN (WP w) ≤ WS w ∧ 0 ≤ MN (WP w))) ∨ (∃ c2 : Int, ∃ t2 : Int, ∃ u2 : Int, ∃ WP2 : Int → Int, ∃ WD2 : Int → Int, ∃ WT2 : Int → Int, ∃ WG2 : Int → Int, ∃ WS2 : Int → Int, oc = .returned none ∧ fx o o [280, 328, 329, 330, 331, 332] G G2 ∧ G2.length = G.length ∧ ab_slots G2 = ab_slots G ∧ cc o G2 80 280 (ab_ob 12 (mof m_thrown m_taped m_length m_out m_wide m_gathered m_sets m_ranges m_nodes m_at m_flags m_fault m_place m_numbered m_depth m_value m_isNot m_least0 m_most0 m_slot (m_work + 1) m_got m_rowMany m_charAt m_charWide m_trail m_isMatch m_matchGroups m_allFrom m_allBefore m_founds m_pieces m_writtenMany m_templateWide m_tooMuch)) ∧ cc o G2 128 328 (za 300 WP2) ∧ cc o G2 129 329 (za 300 WD2) ∧ cc o G2 130 330 (za 300 WT2) ∧ cc o G2 131 331 (za 300 WG2) ∧ cc o G2 132 332 (za 300 WS2) ∧ (rgs WP2 300 0 4199) ∧ (rgs WD2 300 0 31) ∧ (rgs WT2 300 0 39968) ∧ (rgs WG2 300 0 39968) ∧ (rgs WS2 300 0 4300) ∧ (fsm WP WD WT WG WS WP2 WD2 WT2 WG2 WS2 w) ∧ (WP2 m_work = c2) ∧ (WD2 m_work = WD w) ∧ (WT2 m_work = t2) ∧ (WG2 m_work = t2) ∧ (WS2 m_work = 0) ∧ (WP2 w = WP w) ∧ (WD2 w = WD w) ∧ (WT2 w = WT w) ∧ (WG2 w = u2) ∧ (WS2 w = (WS w + 1)) ∧ (0 ≤ c2 ∧ c2 < nd) ∧ (t2 = WG w) ∧ (u2 = WG w) ∧ (WS w < MN (WP w) ∧ MN (WP w) ≤ 4200) ∧ (pa c2 = WP w ∧ po c2 = MN (WP w) - 1 - WS w) ∧ (nthI Fi Be (WP w) (MN (WP w) - 1 - WS w) c2))) := ⟨_, rfl⟩
  rw [← hQ]
  change ab_W X (ab_pl y_MO_goRow b_MO_goRow 3 none) d G 0 [some (vR 80), some (vz w), none] [] Q
  have hfr : fx o o [280, 328, 329, 330, 331, 332] G G := fx.rf
  have hlen : G.length = G.length := rfl
  have hsl : ab_slots G = ab_slots G := rfl
  refine ab_aload_n d_MO_goRow_0 rfl ?_
  refine ab_getf (fs := mof m_thrown m_taped m_length m_out m_wide m_gathered m_sets m_ranges m_nodes m_at m_flags m_fault m_place m_numbered m_depth m_value m_isNot m_least0 m_most0 m_slot m_work m_got m_rowMany m_charAt m_charWide m_trail m_isMatch m_matchGroups m_allFrom m_allBefore m_founds m_pieces m_writtenMany m_templateWide m_tooMuch) f_MO_170 d_MO_goRow_1 h80.2.2 rfl ?_
  refine ab_iload_n d_MO_goRow_4 rfl ?_
  refine zz_iald d_MO_goRow_5 h132 (by omega) ?_
  have hq1 := gws w (by omega) (by omega)
  refine zz_if_le (tgt := 19) d_MO_goRow_6 (by decide) (by omega) (fun c2 => ?_) (fun c2 => absurd c2 (by omega))
  refine ab_aload_n d_MO_goRow_19 rfl ?_
  refine ab_aload_n d_MO_goRow_20 rfl ?_
  refine ab_getf (fs := mof m_thrown m_taped m_length m_out m_wide m_gathered m_sets m_ranges m_nodes m_at m_flags m_fault m_place m_numbered m_depth m_value m_isNot m_least0 m_most0 m_slot m_work m_got m_rowMany m_charAt m_charWide m_trail m_isMatch m_matchGroups m_allFrom m_allBefore m_founds m_pieces m_writtenMany m_templateWide m_tooMuch) f_MO_158 d_MO_goRow_21 h80.2.2 rfl ?_
  refine ab_iload_n d_MO_goRow_24 rfl ?_
  refine zz_iald d_MO_goRow_25 h128 (by omega) ?_
  have hq3 := gwp w (by omega) (by omega)
  refine ab_aload_n d_MO_goRow_26 rfl ?_
  refine ab_getf (fs := mof m_thrown m_taped m_length m_out m_wide m_gathered m_sets m_ranges m_nodes m_at m_flags m_fault m_place m_numbered m_depth m_value m_isNot m_least0 m_most0 m_slot m_work m_got m_rowMany m_charAt m_charWide m_trail m_isMatch m_matchGroups m_allFrom m_allBefore m_founds m_pieces m_writtenMany m_templateWide m_tooMuch) f_MO_170 d_MO_goRow_27 h80.2.2 rfl ?_
  refine ab_iload_n d_MO_goRow_30 rfl ?_
  refine zz_iald d_MO_goRow_31 h132 (by omega) ?_
  have hq4 := gws w (by omega) (by omega)
  refine ab_callV (d' := d - 1) (as := [vz (WP w), vz (WS w)]) (st := []) (r := _) (z_MO_fromEnd (o := o) (m_thrown := m_thrown) (m_taped := m_taped) (m_length := m_length) (m_out := m_out) (m_wide := m_wide) (m_gathered := m_gathered) (m_sets := m_sets) (m_ranges := m_ranges) (m_nodes := m_nodes) (m_at := m_at) (m_flags := m_flags) (m_fault := m_fault) (m_place := m_place) (m_numbered := m_numbered) (m_depth := m_depth) (m_value := m_value) (m_isNot := m_isNot) (m_least0 := m_least0) (m_most0 := m_most0) (m_slot := m_slot) (m_work := m_work) (m_got := m_got) (m_rowMany := m_rowMany) (m_charAt := m_charAt) (m_charWide := m_charWide) (m_trail := m_trail) (m_isMatch := m_isMatch) (m_matchGroups := m_matchGroups) (m_allFrom := m_allFrom) (m_allBefore := m_allBefore) (m_founds := m_founds) (m_pieces := m_pieces) (m_writtenMany := m_writtenMany) (m_templateWide := m_templateWide) (m_tooMuch := m_tooMuch) (K := K) (O := O) (Fi := Fi) (Be := Be) (Le := Le) (Mo := Mo) (Z := Z) (SM := SM) (k := (WS w)) (x := (WP w)) (ns := ns) (pa := pa) (po := po) (MN := MN) (dl := dl) (st := st) (ht := ht) (hh := hh) (PS := PS) (T_ := T_) (QF := QF) (QL := QL) (AF := AF) (AL := AL) (SD := SD) (nd := nd) h80 h96 h97 jG (by omega) jfi jf (by omega) (by omega)) (fun oc G2 h => by rcases h with ⟨h, _⟩ | ⟨_, h, _⟩ <;> exact ⟨_, h⟩) (by omega) m_MO_fromEnd ml_MO_457 im_MO_fromEnd se_MO_fromEnd c_MO h80.2.2 (Nat.le_of_ble_eq_true rfl) d_MO_goRow_32 rfl ?_
  intro v G5 hq
  rcases hq with ⟨hv, hfk, hlk, hsk, hq6⟩ | ⟨c27, hv, hfk, hlk, hsk, hq8, hq9, hq10⟩
  · cases hv
    have h80 := hfk.get h80 (by decide)
    have h94 := hfk.get h94 (by decide)
    have h95 := hfk.get h95 (by decide)
    have h96 := hfk.get h96 (by decide)
    have h97 := hfk.get h97 (by decide)
    have h98 := hfk.get h98 (by decide)
    have h99 := hfk.get h99 (by decide)
    have h100 := hfk.get h100 (by decide)
    have h101 := hfk.get h101 (by decide)
    have h90 := hfk.get h90 (by decide)
    have h89 := hfk.get h89 (by decide)
    have h91 := hfk.get h91 (by decide)
    have h92 := hfk.get h92 (by decide)
    have h118 := hfk.get h118 (by decide)
    have h119 := hfk.get h119 (by decide)
    have h120 := hfk.get h120 (by decide)
    have h121 := hfk.get h121 (by decide)
    have h122 := hfk.get h122 (by decide)
    have h123 := hfk.get h123 (by decide)
    have h124 := hfk.get h124 (by decide)
    have h117 := hfk.get h117 (by decide)
    have h125 := hfk.get h125 (by decide)
    have h133 := hfk.get h133 (by decide)
    have h128 := hfk.get h128 (by decide)
    have h129 := hfk.get h129 (by decide)
    have h130 := hfk.get h130 (by decide)
    have h131 := hfk.get h131 (by decide)
    have h132 := hfk.get h132 (by decide)
    have hfr := hfr.tr hfk (by decide)
    have hlen := hlk.trans hlen
    have hsl := hsk.trans hsl
    change ab_W _ _ _ G5 35 [some (vR 80), some (vz w), none] [vz (-1)] _
    refine ab_istore_n d_MO_goRow_35 (Nat.le_of_ble_eq_true rfl) (Nat.le_of_ble_eq_true rfl) rfl ?_
    change ab_W _ _ _ G5 36 [some (vR 80), some (vz w), some (vz (-1))] [] _
    refine ab_iload_n d_MO_goRow_36 rfl ?_
    refine zz_if_ge (tgt := 51) d_MO_goRow_37 (by decide) (by decide) (fun c11 => absurd c11 (by decide)) (fun c11 => ?_)
    refine ab_aload_n d_MO_goRow_40 rfl ?_
    refine ab_aload_n d_MO_goRow_41 rfl ?_
    refine ab_getf (fs := mof m_thrown m_taped m_length m_out m_wide m_gathered m_sets m_ranges m_nodes m_at m_flags m_fault m_place m_numbered m_depth m_value m_isNot m_least0 m_most0 m_slot m_work m_got m_rowMany m_charAt m_charWide m_trail m_isMatch m_matchGroups m_allFrom m_allBefore m_founds m_pieces m_writtenMany m_templateWide m_tooMuch) f_MO_167 d_MO_goRow_42 h80.2.2 rfl ?_
    refine ab_iload_n d_MO_goRow_45 rfl ?_
    refine zz_iald d_MO_goRow_46 h131 (by omega) ?_
    have hq12 := gwg w (by omega) (by omega)
    refine ab_callV (d' := d - 1) (as := [vz (WG w)]) (st := []) (r := _) (z_MO_done (o := o) (m_thrown := m_thrown) (m_taped := m_taped) (m_length := m_length) (m_out := m_out) (m_wide := m_wide) (m_gathered := m_gathered) (m_sets := m_sets) (m_ranges := m_ranges) (m_nodes := m_nodes) (m_at := m_at) (m_flags := m_flags) (m_fault := m_fault) (m_place := m_place) (m_numbered := m_numbered) (m_depth := m_depth) (m_value := m_value) (m_isNot := m_isNot) (m_least0 := m_least0) (m_most0 := m_most0) (m_slot := m_slot) (m_work := m_work) (m_got := m_got) (m_rowMany := m_rowMany) (m_charAt := m_charAt) (m_charWide := m_charWide) (m_trail := m_trail) (m_isMatch := m_isMatch) (m_matchGroups := m_matchGroups) (m_allFrom := m_allFrom) (m_allBefore := m_allBefore) (m_founds := m_founds) (m_pieces := m_pieces) (m_writtenMany := m_writtenMany) (m_templateWide := m_templateWide) (m_tooMuch := m_tooMuch) (x := (WG w)) h80 (by omega)) (fun oc G2 h => by rcases h with ⟨h, _⟩ <;> exact ⟨_, h⟩) (by omega) m_MO_done ml_MO_461 im_MO_done se_MO_done c_MO h80.2.2 (Nat.le_of_ble_eq_true rfl) d_MO_goRow_47 rfl ?_
    intro v G13 hq
    rcases hq with ⟨hv, hfk, hlk, hsk, hN80⟩
    cases hv
    have h94 := hfk.get h94 (by decide)
    have h95 := hfk.get h95 (by decide)
    have h96 := hfk.get h96 (by decide)
    have h97 := hfk.get h97 (by decide)
    have h98 := hfk.get h98 (by decide)
    have h99 := hfk.get h99 (by decide)
    have h100 := hfk.get h100 (by decide)
    have h101 := hfk.get h101 (by decide)
    have h90 := hfk.get h90 (by decide)
    have h89 := hfk.get h89 (by decide)
    have h91 := hfk.get h91 (by decide)
    have h92 := hfk.get h92 (by decide)
    have h118 := hfk.get h118 (by decide)
    have h119 := hfk.get h119 (by decide)
    have h120 := hfk.get h120 (by decide)
    have h121 := hfk.get h121 (by decide)
    have h122 := hfk.get h122 (by decide)
    have h123 := hfk.get h123 (by decide)
    have h124 := hfk.get h124 (by decide)
    have h117 := hfk.get h117 (by decide)
    have h125 := hfk.get h125 (by decide)
    have h133 := hfk.get h133 (by decide)
    have h128 := hfk.get h128 (by decide)
    have h129 := hfk.get h129 (by decide)
    have h130 := hfk.get h130 (by decide)
    have h131 := hfk.get h131 (by decide)
    have h132 := hfk.get h132 (by decide)
    have hfr := hfr.tr hfk (by decide)
    have hlen := hlk.trans hlen
    have hsl := hsk.trans hsl
    have h80 := hN80
    change ab_W _ _ _ G13 50 [some (vR 80), some (vz w), some (vz (-1))] [] _
    refine ab_vret rfl d_MO_goRow_50 ?_
    rw [hQ]; exact (Or.inl ⟨_, _, _, _, _, _, rfl, hfr, hlen, hsl, h80, h128, h129, h130, h131, h132, (by first | exact gwp | exact rgs_w gwp (by omega)), (by first | exact gwd | exact rgs_w gwd (by omega)), (by first | exact gwt | exact rgs_w gwt (by omega)), (by first | exact gwg | exact rgs_w gwg (by omega)), (by first | exact gws | exact rgs_w gws (by omega)), (by exact fun j_ a_ => ⟨rfl, rfl, rfl, rfl, rfl⟩), (by first | rfl | (rw [zu_self]; done) | omega), (by omega)⟩)
  · cases hv
    have h80 := hfk.get h80 (by decide)
    have h94 := hfk.get h94 (by decide)
    have h95 := hfk.get h95 (by decide)
    have h96 := hfk.get h96 (by decide)
    have h97 := hfk.get h97 (by decide)
    have h98 := hfk.get h98 (by decide)
    have h99 := hfk.get h99 (by decide)
    have h100 := hfk.get h100 (by decide)
    have h101 := hfk.get h101 (by decide)
    have h90 := hfk.get h90 (by decide)
    have h89 := hfk.get h89 (by decide)
    have h91 := hfk.get h91 (by decide)
    have h92 := hfk.get h92 (by decide)
    have h118 := hfk.get h118 (by decide)
    have h119 := hfk.get h119 (by decide)
    have h120 := hfk.get h120 (by decide)
    have h121 := hfk.get h121 (by decide)
    have h122 := hfk.get h122 (by decide)
    have h123 := hfk.get h123 (by decide)
    have h124 := hfk.get h124 (by decide)
    have h117 := hfk.get h117 (by decide)
    have h125 := hfk.get h125 (by decide)
    have h133 := hfk.get h133 (by decide)
    have h128 := hfk.get h128 (by decide)
    have h129 := hfk.get h129 (by decide)
    have h130 := hfk.get h130 (by decide)
    have h131 := hfk.get h131 (by decide)
    have h132 := hfk.get h132 (by decide)
    have hfr := hfr.tr hfk (by decide)
    have hlen := hlk.trans hlen
    have hsl := hsk.trans hsl
    change ab_W _ _ _ G5 35 [some (vR 80), some (vz w), none] [vz c27] _
    refine ab_istore_n d_MO_goRow_35 (Nat.le_of_ble_eq_true rfl) (Nat.le_of_ble_eq_true rfl) rfl ?_
    change ab_W _ _ _ G5 36 [some (vR 80), some (vz w), some (vz c27)] [] _
    refine ab_iload_n d_MO_goRow_36 rfl ?_
    refine zz_if_ge (tgt := 51) d_MO_goRow_37 (by decide) (by omega) (fun c14 => ?_) (fun c14 => absurd c14 (by omega))
    refine ab_aload_n d_MO_goRow_51 rfl ?_
    refine ab_getf (fs := mof m_thrown m_taped m_length m_out m_wide m_gathered m_sets m_ranges m_nodes m_at m_flags m_fault m_place m_numbered m_depth m_value m_isNot m_least0 m_most0 m_slot m_work m_got m_rowMany m_charAt m_charWide m_trail m_isMatch m_matchGroups m_allFrom m_allBefore m_founds m_pieces m_writtenMany m_templateWide m_tooMuch) f_MO_170 d_MO_goRow_52 h80.2.2 rfl ?_
    refine ab_iload_n d_MO_goRow_55 rfl ?_
    refine ab_dup2 d_MO_goRow_56 rfl rfl ?_
    refine zz_iald d_MO_goRow_57 h132 (by omega) ?_
    have hq15 := gws w (by omega) (by omega)
    refine zz_iconst d_MO_goRow_58 ?_
    refine zz_iadd d_MO_goRow_59 ?_
    refine zz_iast d_MO_goRow_60 h132 (by omega) (h132.2.1 (by decide)) ?_
    obtain ⟨G16, eG16⟩ : ∃ z : ab_G, z = List.set G5 132 (za 300 (zu WS w ((WS w) + 1))) := ⟨_, rfl⟩
    have h80 := h80.keep h132 eG16 (by decide)
    have h94 := h94.keep h132 eG16 (by decide)
    have h95 := h95.keep h132 eG16 (by decide)
    have h96 := h96.keep h132 eG16 (by decide)
    have h97 := h97.keep h132 eG16 (by decide)
    have h98 := h98.keep h132 eG16 (by decide)
    have h99 := h99.keep h132 eG16 (by decide)
    have h100 := h100.keep h132 eG16 (by decide)
    have h101 := h101.keep h132 eG16 (by decide)
    have h90 := h90.keep h132 eG16 (by decide)
    have h89 := h89.keep h132 eG16 (by decide)
    have h91 := h91.keep h132 eG16 (by decide)
    have h92 := h92.keep h132 eG16 (by decide)
    have h118 := h118.keep h132 eG16 (by decide)
    have h119 := h119.keep h132 eG16 (by decide)
    have h120 := h120.keep h132 eG16 (by decide)
    have h121 := h121.keep h132 eG16 (by decide)
    have h122 := h122.keep h132 eG16 (by decide)
    have h123 := h123.keep h132 eG16 (by decide)
    have h124 := h124.keep h132 eG16 (by decide)
    have h117 := h117.keep h132 eG16 (by decide)
    have h125 := h125.keep h132 eG16 (by decide)
    have h133 := h133.keep h132 eG16 (by decide)
    have h128 := h128.keep h132 eG16 (by decide)
    have h129 := h129.keep h132 eG16 (by decide)
    have h130 := h130.keep h132 eG16 (by decide)
    have h131 := h131.keep h132 eG16 (by decide)
    have hlen := (z_len eG16).trans hlen
    have hsl := (z_sl h132 eG16 rfl).trans hsl
    have hfr := hfr.wr h132 eG16 (by decide)
    have h132 := h132.kept eG16
    change ab_W _ _ _ (List.set G5 132 (za 300 (zu WS w ((WS w) + 1)))) 61 [some (vR 80), some (vz w), some (vz c27)] [] _
    rw [← eG16]
    refine ab_aload_n d_MO_goRow_61 rfl ?_
    refine ab_iload_n d_MO_goRow_62 rfl ?_
    refine ab_aload_n d_MO_goRow_63 rfl ?_
    refine ab_getf (fs := mof m_thrown m_taped m_length m_out m_wide m_gathered m_sets m_ranges m_nodes m_at m_flags m_fault m_place m_numbered m_depth m_value m_isNot m_least0 m_most0 m_slot m_work m_got m_rowMany m_charAt m_charWide m_trail m_isMatch m_matchGroups m_allFrom m_allBefore m_founds m_pieces m_writtenMany m_templateWide m_tooMuch) f_MO_161 d_MO_goRow_64 h80.2.2 rfl ?_
    refine ab_iload_n d_MO_goRow_67 rfl ?_
    refine zz_iald d_MO_goRow_68 h129 (by omega) ?_
    have hq17 := gwd w (by omega) (by omega)
    refine ab_aload_n d_MO_goRow_69 rfl ?_
    refine ab_getf (fs := mof m_thrown m_taped m_length m_out m_wide m_gathered m_sets m_ranges m_nodes m_at m_flags m_fault m_place m_numbered m_depth m_value m_isNot m_least0 m_most0 m_slot m_work m_got m_rowMany m_charAt m_charWide m_trail m_isMatch m_matchGroups m_allFrom m_allBefore m_founds m_pieces m_writtenMany m_templateWide m_tooMuch) f_MO_167 d_MO_goRow_70 h80.2.2 rfl ?_
    refine ab_iload_n d_MO_goRow_73 rfl ?_
    refine zz_iald d_MO_goRow_74 h131 (by omega) ?_
    have hq18 := gwg w (by omega) (by omega)
    refine ab_callV (d' := d - 1) (as := [vz c27, vz (WD w), vz (WG w)]) (st := []) (r := _) (z_MO_open (o := o) (m_thrown := m_thrown) (m_taped := m_taped) (m_length := m_length) (m_out := m_out) (m_wide := m_wide) (m_gathered := m_gathered) (m_sets := m_sets) (m_ranges := m_ranges) (m_nodes := m_nodes) (m_at := m_at) (m_flags := m_flags) (m_fault := m_fault) (m_place := m_place) (m_numbered := m_numbered) (m_depth := m_depth) (m_value := m_value) (m_isNot := m_isNot) (m_least0 := m_least0) (m_most0 := m_most0) (m_slot := m_slot) (m_work := m_work) (m_got := m_got) (m_rowMany := m_rowMany) (m_charAt := m_charAt) (m_charWide := m_charWide) (m_trail := m_trail) (m_isMatch := m_isMatch) (m_matchGroups := m_matchGroups) (m_allFrom := m_allFrom) (m_allBefore := m_allBefore) (m_founds := m_founds) (m_pieces := m_pieces) (m_writtenMany := m_writtenMany) (m_templateWide := m_templateWide) (m_tooMuch := m_tooMuch) (WP := WP) (WD := WD) (WT := WT) (WG := WG) (WS := (zu WS w ((WS w) + 1))) (to := (WG w)) (x := c27) (y := (WD w)) h80 h128 h129 h130 h131 h132 (by omega) (by omega)) (fun oc G2 h => by rcases h with ⟨h, _⟩ <;> exact ⟨_, h⟩) (by omega) m_MO_open ml_MO_464 im_MO_open se_MO_open c_MO h80.2.2 (Nat.le_of_ble_eq_true rfl) d_MO_goRow_75 rfl ?_
    intro v G19 hq
    rcases hq with ⟨hv, hfk, hlk, hsk, hN80, hN128, hN129, hN130, hN131, hN132⟩
    cases hv
    have h94 := hfk.get h94 (by decide)
    have h95 := hfk.get h95 (by decide)
    have h96 := hfk.get h96 (by decide)
    have h97 := hfk.get h97 (by decide)
    have h98 := hfk.get h98 (by decide)
    have h99 := hfk.get h99 (by decide)
    have h100 := hfk.get h100 (by decide)
    have h101 := hfk.get h101 (by decide)
    have h90 := hfk.get h90 (by decide)
    have h89 := hfk.get h89 (by decide)
    have h91 := hfk.get h91 (by decide)
    have h92 := hfk.get h92 (by decide)
    have h118 := hfk.get h118 (by decide)
    have h119 := hfk.get h119 (by decide)
    have h120 := hfk.get h120 (by decide)
    have h121 := hfk.get h121 (by decide)
    have h122 := hfk.get h122 (by decide)
    have h123 := hfk.get h123 (by decide)
    have h124 := hfk.get h124 (by decide)
    have h117 := hfk.get h117 (by decide)
    have h125 := hfk.get h125 (by decide)
    have h133 := hfk.get h133 (by decide)
    have hfr := hfr.tr hfk (by decide)
    have hlen := hlk.trans hlen
    have hsl := hsk.trans hsl
    have h80 := hN80
    have h128 := hN128
    have h129 := hN129
    have h130 := hN130
    have h131 := hN131
    have h132 := hN132
    change ab_W _ _ _ G19 78 [some (vR 80), some (vz w), some (vz c27)] [] _
    refine ab_vret rfl d_MO_goRow_78 ?_
    rw [hQ]; exact (Or.inr ⟨_, _, (WG w), _, _, _, _, _, rfl, hfr, hlen, hsl, h80, h128, h129, h130, h131, h132, (by first | exact (rgs_zu gwp (by omega)) | exact rgs_w (rgs_zu gwp (by omega)) (by omega)), (by first | exact (rgs_zu gwd (by omega)) | exact rgs_w (rgs_zu gwd (by omega)) (by omega)), (by first | exact (rgs_zu gwt (by omega)) | exact rgs_w (rgs_zu gwt (by omega)) (by omega)), (by first | exact (rgs_zu gwg (by omega)) | exact rgs_w (rgs_zu gwg (by omega)) (by omega)), (by first | exact (rgs_zu (rgs_zu gws (by omega)) (by omega)) | exact rgs_w (rgs_zu (rgs_zu gws (by omega)) (by omega)) (by omega)), (by exact fun j_ a_ => ⟨by rw [zu_ne (by omega)], by rw [zu_ne (by omega)], by rw [zu_ne (by omega)], by rw [zu_ne (by omega)], by rw [zu_ne (by omega), zu_ne (by omega)]⟩), (by rw [zu_self]), (by rw [zu_self]), (by rw [zu_self]), (by rw [zu_self]), (by rw [zu_self]), (by rw [zu_ne (show w ≠ m_work by omega)]), (by rw [zu_ne (show w ≠ m_work by omega)]), (by rw [zu_ne (show w ≠ m_work by omega)]), (by rw [zu_ne (show w ≠ m_work by omega)]), (by rw [zu_ne (show w ≠ m_work by omega), zu_self] <;> omega), (by omega), (by first | rfl | (rw [zu_self]; done) | omega), (by first | rfl | (rw [zu_self]; done) | omega), (by omega), (by exact hq9), (by exact hq10)⟩)
set_option maxRecDepth 100000 in
set_option maxHeartbeats 4000000 in
theorem z_MO_goRow_s {X : ab_X} {d : Nat} {o : Nat → Nat} {G : ab_G} {m_thrown : Int} {m_taped : Int} {m_length : Int} {m_out : Int} {m_wide : Int} {m_gathered : Int} {m_sets : Int} {m_ranges : Int} {m_nodes : Int} {m_at : Int} {m_flags : Int} {m_fault : Int} {m_place : Int} {m_numbered : Int} {m_depth : Int} {m_value : Int} {m_isNot : Int} {m_least0 : Int} {m_most0 : Int} {m_slot : Int} {m_work : Int} {m_got : Int} {m_rowMany : Int} {m_charAt : Int} {m_charWide : Int} {m_trail : Int} {m_isMatch : Int} {m_matchGroups : Int} {m_allFrom : Int} {m_allBefore : Int} {m_founds : Int} {m_pieces : Int} {m_writtenMany : Int} {m_templateWide : Int} {m_tooMuch : Int} {T : Int → Int} {N : Int → Int} {W : Int → Int} {CA : Int → Int} {CM : Int → Int} {CL : Int → Int} {CH : Int → Int} {SN : Int → Int} {CC : Int → Int} {RO : Int → Int} {WP : Int → Int} {WD : Int → Int} {WT : Int → Int} {WG : Int → Int} {WS : Int → Int} {K : Int → Int} {O : Int → Int} {Fi : Int → Int} {Be : Int → Int} {Le : Int → Int} {Mo : Int → Int} {Z : Int → Int} {LZ : Int → Int} {SM : Int → Int} {SA : Int → Int} {RL : Int → Int} {RH : Int → Int} {w : Int} {ns : Int} {pa : Int → Int} {po : Int → Int} {MN : Int → Int} {dl : Int → Int} {st : Int → Int} {ht : Int → Int} {hh : Int → Int} {PS : Int → Int → Int} {T_ : Int} {QF : Int → Int} {QL : Int → Int} {AF : Int → Int} {AL : Int → Int} {SD : Int → Int} {nd : Int} (h80 : cc o G 80 280 (ab_ob 12 (mof m_thrown m_taped m_length m_out m_wide m_gathered m_sets m_ranges m_nodes m_at m_flags m_fault m_place m_numbered m_depth m_value m_isNot m_least0 m_most0 m_slot m_work m_got m_rowMany m_charAt m_charWide m_trail m_isMatch m_matchGroups m_allFrom m_allBefore m_founds m_pieces m_writtenMany m_templateWide m_tooMuch))) (h94 : cc o G 94 294 (za 4200 K)) (h95 : cc o G 95 295 (za 4200 O)) (h96 : cc o G 96 296 (za 4200 Fi)) (h97 : cc o G 97 297 (za 4200 Be)) (h98 : cc o G 98 298 (za 4200 Le)) (h99 : cc o G 99 299 (za 4200 Mo)) (h100 : cc o G 100 300 (zl 4200 Z)) (h101 : cc o G 101 301 (zb 4200 LZ)) (h90 : cc o G 90 290 (za 2100 SM)) (h89 : cc o G 89 289 (za 2100 SA)) (h91 : cc o G 91 291 (za 24000 RL)) (h92 : cc o G 92 292 (za 24000 RH)) (h118 : cc o G 118 318 (za 75000 T)) (h119 : cc o G 119 319 (za 75000 N)) (h120 : cc o G 120 320 (za 75000 W)) (h121 : cc o G 121 321 (za 75000 CA)) (h122 : cc o G 122 322 (za 75000 CM)) (h123 : cc o G 123 323 (za 3600 CL)) (h124 : cc o G 124 324 (za 3600 CH)) (h117 : cc o G 117 317 (za 6 SN)) (h125 : cc o G 125 325 (za 6 CC)) (h133 : cc o G 133 333 (za 40000 RO)) (h128 : cc o G 128 328 (za 300 WP)) (h129 : cc o G 129 329 (za 300 WD)) (h130 : cc o G 130 330 (za 300 WT)) (h131 : cc o G 131 331 (za 300 WG)) (h132 : cc o G 132 332 (za 300 WS)) (n18 : ab_n0 = 18) (csl : 0 ≤ m_slot ∧ m_slot ≤ 5) (jrl : rgs RL 24000 0 1114111) (jrh : rgs RH 24000 0 1114111) (jk : rgs K 4200 0 7) (jo : rgs O 4200 (-1) 3000) (jfi : rgs Fi 4200 (-1) 4199) (jbe : rgs Be 4200 (-1) 4199) (jle : rgs Le 4200 0 1000) (jmo : rgs Mo 4200 (-1) 1000) (jz : rgs Z 4200 (-1) 1000000000000) (jlz : rgs LZ 4200 0 1) (jsm : rgs SM 2100 0 24000) (jsa : rgs SA 2100 0 24000) (gt : rgs T 75000 0 6) (gn : rgs N 75000 (-1) 12499) (gw : rgs W 75000 (-1) 12499) (gca : rgs CA 75000 0 3600) (gcm : rgs CM 75000 0 24000) (gcl : rgs CL 3600 0 1114111) (gch : rgs CH 3600 0 1114111) (gsn : rgs SN 6 0 12500) (gcc : rgs CC 6 0 600) (gro : rgs RO 40000 0 12499) (gwp : rgs WP 300 0 4199) (gwd : rgs WD 300 0 31) (gwt : rgs WT 300 0 39968) (gwg : rgs WG 300 0 39968) (gws : rgs WS 300 0 4300) (jka : tka T W CA CM SM SA RL RH CL CH (12500 * m_slot) (SN m_slot) m_slot (CC m_slot) ns) (jss : sas SA SM ns) (cst : 0 ≤ m_rowMany ∧ m_rowMany ≤ 1250 ∧ 0 ≤ (SN m_slot) ∧ (SN m_slot) ≤ 12500 ∧ 0 ≤ ns ∧ ns ≤ 2100) (cw : 0 ≤ w ∧ m_work = w + 1 ∧ w < 299) (cx : 0 ≤ WP w ∧ WP w < nd ∧ 0 ≤ nd ∧ nd ≤ 4200 ∧ 0 ≤ WD w ∧ WD w ≤ 31 ∧ 0 ≤ WT w ∧ WT w + 32 ≤ 32 * m_rowMany) (jG : rtG K O Fi Be Le Mo Z SM QF QL AF AL SD nd ns 0 pa po MN dl st ht hh PS T_) (ck : K (WP w) = 4) (jf : rtF nd pa po MN (WP w) (Fi (WP w))) (cws : 0 ≤ WS w ∧ WS w ≤ 4200) (cs0 : 0 < WS w) (jgo : rokk RO m_got (WD w + 1) (SN m_slot)) (cgo : 0 ≤ m_got ∧ m_got + 32 ≤ 32 * m_rowMany) (hd : 3 ≤ d) : ab_F X d y_MO_goRow (.code y_MO_goRow b_MO_goRow 3 none) [vR 80, vz w] G (fun oc G2 => (∃ g2 : Int, ∃ WP2 : Int → Int, ∃ WD2 : Int → Int, ∃ WT2 : Int → Int, ∃ WG2 : Int → Int, ∃ WS2 : Int → Int, oc = .returned none ∧ fx o o [280, 328, 329, 330, 331, 332] G G2 ∧ G2.length = G.length ∧ ab_slots G2 = ab_slots G ∧ cc o G2 80 280 (ab_ob 12 (mof m_thrown m_taped m_length m_out m_wide m_gathered m_sets m_ranges m_nodes m_at m_flags m_fault m_place m_numbered m_depth m_value m_isNot m_least0 m_most0 m_slot (m_work - 1) g2 m_rowMany m_charAt m_charWide m_trail m_isMatch m_matchGroups m_allFrom m_allBefore m_founds m_pieces m_writtenMany m_templateWide m_tooMuch)) ∧ cc o G2 128 328 (za 300 WP2) ∧ cc o G2 129 329 (za 300 WD2) ∧ cc o G2 130 330 (za 300 WT2) ∧ cc o G2 131 331 (za 300 WG2) ∧ cc o G2 132 332 (za 300 WS2) ∧ (rgs WP2 300 0 4199) ∧ (rgs WD2 300 0 31) ∧ (rgs WT2 300 0 39968) ∧ (rgs WG2 300 0 39968) ∧ (rgs WS2 300 0 4300) ∧ (fsm WP WD WT WG WS WP2 WD2 WT2 WG2 WS2 w) ∧ (g2 = m_got) ∧ (MN (WP w) ≤ WS w ∧ 0 ≤ MN (WP w))) ∨ (∃ c2 : Int, ∃ t2 : Int, ∃ u2 : Int, ∃ WP2 : Int → Int, ∃ WD2 : Int → Int, ∃ WT2 : Int → Int, ∃ WG2 : Int → Int, ∃ WS2 : Int → Int, oc = .returned none ∧ fx o o [280, 328, 329, 330, 331, 332] G G2 ∧ G2.length = G.length ∧ ab_slots G2 = ab_slots G ∧ cc o G2 80 280 (ab_ob 12 (mof m_thrown m_taped m_length m_out m_wide m_gathered m_sets m_ranges m_nodes m_at m_flags m_fault m_place m_numbered m_depth m_value m_isNot m_least0 m_most0 m_slot (m_work + 1) m_got m_rowMany m_charAt m_charWide m_trail m_isMatch m_matchGroups m_allFrom m_allBefore m_founds m_pieces m_writtenMany m_templateWide m_tooMuch)) ∧ cc o G2 128 328 (za 300 WP2) ∧ cc o G2 129 329 (za 300 WD2) ∧ cc o G2 130 330 (za 300 WT2) ∧ cc o G2 131 331 (za 300 WG2) ∧ cc o G2 132 332 (za 300 WS2) ∧ (rgs WP2 300 0 4199) ∧ (rgs WD2 300 0 31) ∧ (rgs WT2 300 0 39968) ∧ (rgs WG2 300 0 39968) ∧ (rgs WS2 300 0 4300) ∧ (fsm WP WD WT WG WS WP2 WD2 WT2 WG2 WS2 w) ∧ (WP2 m_work = c2) ∧ (WD2 m_work = WD w) ∧ (WT2 m_work = t2) ∧ (WG2 m_work = t2) ∧ (WS2 m_work = 0) ∧ (WP2 w = WP w) ∧ (WD2 w = WD w) ∧ (WT2 w = WT w) ∧ (WG2 w = u2) ∧ (WS2 w = (WS w + 1)) ∧ (0 ≤ c2 ∧ c2 < nd) ∧ (t2 = m_got) ∧ (u2 = m_got) ∧ (WS w < MN (WP w) ∧ MN (WP w) ≤ 4200) ∧ (pa c2 = WP w ∧ po c2 = MN (WP w) - 1 - WS w) ∧ (nthI Fi Be (WP w) (MN (WP w) - 1 - WS w) c2))) := by
  refine ab_F_of (by decide +kernel) (Nat.le_of_ble_eq_true rfl) ?_
  obtain ⟨Q, hQ⟩ : ∃ z : Outcome → ab_G → Prop, z = (fun oc G2 => (∃ g2 : Int, ∃ WP2 : Int → Int, ∃ WD2 : Int → Int, ∃ WT2 : Int → Int, ∃ WG2 : Int → Int, ∃ WS2 : Int → Int, oc = .returned none ∧ fx o o [280, 328, 329, 330, 331, 332] G G2 ∧ G2.length = G.length ∧ ab_slots G2 = ab_slots G ∧ cc o G2 80 280 (ab_ob 12 (mof m_thrown m_taped m_length m_out m_wide m_gathered m_sets m_ranges m_nodes m_at m_flags m_fault m_place m_numbered m_depth m_value m_isNot m_least0 m_most0 m_slot (m_work - 1) g2 m_rowMany m_charAt m_charWide m_trail m_isMatch m_matchGroups m_allFrom m_allBefore m_founds m_pieces m_writtenMany m_templateWide m_tooMuch)) ∧ cc o G2 128 328 (za 300 WP2) ∧ cc o G2 129 329 (za 300 WD2) ∧ cc o G2 130 330 (za 300 WT2) ∧ cc o G2 131 331 (za 300 WG2) ∧ cc o G2 132 332 (za 300 WS2) ∧ (rgs WP2 300 0 4199) ∧ (rgs WD2 300 0 31) ∧ (rgs WT2 300 0 39968) ∧ (rgs WG2 300 0 39968) ∧ (rgs WS2 300 0 4300) ∧ (fsm WP WD WT WG WS WP2 WD2 WT2 WG2 WS2 w) ∧ (g2 = m_got) ∧ (MN (WP w) ≤ WS w ∧ 0 ≤ MN (WP w))) ∨ (∃ c2 : Int, ∃ t2 : Int, ∃ u2 : Int, ∃ WP2 : Int → Int, ∃ WD2 : Int → Int, ∃ WT2 : Int → Int, ∃ WG2 : Int → Int, ∃ WS2 : Int → Int, oc = .returned none ∧ fx o o [280, 328, 329, 330, 331, 332] G G2 ∧ G2.length = G.length ∧ ab_slots G2 = ab_slots G ∧ cc o G2 80 280 (ab_ob 12 (mof m_thrown m_taped m_length m_out m_wide m_gathered m_sets m_ranges m_nodes m_at m_flags m_fault m_place m_numbered m_depth m_value m_isNot m_least0 m_most0 m_slot (m_work + 1) m_got m_rowMany m_charAt m_charWide m_trail m_isMatch m_matchGroups m_allFrom m_allBefore m_founds m_pieces m_writtenMany m_templateWide m_tooMuch)) ∧ cc o G2 128 328 (za 300 WP2) ∧ cc o G2 129 329 (za 300 WD2) ∧ cc o G2 130 330 (za 300 WT2) ∧ cc o G2 131 331 (za 300 WG2) ∧ cc o G2 132 332 (za 300 WS2) ∧ (rgs WP2 300 0 4199) ∧ (rgs WD2 300 0 31) ∧ (rgs WT2 300 0 39968) ∧ (rgs WG2 300 0 39968) ∧ (rgs WS2 300 0 4300) ∧ (fsm WP WD WT WG WS WP2 WD2 WT2 WG2 WS2 w) ∧ (WP2 m_work = c2) ∧ (WD2 m_work = WD w) ∧ (WT2 m_work = t2) ∧ (WG2 m_work = t2) ∧ (WS2 m_work = 0) ∧ (WP2 w = WP w) ∧ (WD2 w = WD w) ∧ (WT2 w = WT w) ∧ (WG2 w = u2) ∧ (WS2 w = (WS w + 1)) ∧ (0 ≤ c2 ∧ c2 < nd) ∧ (t2 = m_got) ∧ (u2 = m_got) ∧ (WS w < MN (WP w) ∧ MN (WP w) ≤ 4200) ∧ (pa c2 = WP w ∧ po c2 = MN (WP w) - 1 - WS w) ∧ (nthI Fi Be (WP w) (MN (WP w) - 1 - WS w) c2))) := ⟨_, rfl⟩
  rw [← hQ]
  change ab_W X (ab_pl y_MO_goRow b_MO_goRow 3 none) d G 0 [some (vR 80), some (vz w), none] [] Q
  have hfr : fx o o [280, 328, 329, 330, 331, 332] G G := fx.rf
  have hlen : G.length = G.length := rfl
  have hsl : ab_slots G = ab_slots G := rfl
  refine ab_aload_n d_MO_goRow_0 rfl ?_
  refine ab_getf (fs := mof m_thrown m_taped m_length m_out m_wide m_gathered m_sets m_ranges m_nodes m_at m_flags m_fault m_place m_numbered m_depth m_value m_isNot m_least0 m_most0 m_slot m_work m_got m_rowMany m_charAt m_charWide m_trail m_isMatch m_matchGroups m_allFrom m_allBefore m_founds m_pieces m_writtenMany m_templateWide m_tooMuch) f_MO_170 d_MO_goRow_1 h80.2.2 rfl ?_
  refine ab_iload_n d_MO_goRow_4 rfl ?_
  refine zz_iald d_MO_goRow_5 h132 (by omega) ?_
  have hq1 := gws w (by omega) (by omega)
  refine zz_if_le (tgt := 19) d_MO_goRow_6 (by decide) (by omega) (fun c2 => absurd c2 (by omega)) (fun c2 => ?_)
  refine ab_aload_n d_MO_goRow_9 rfl ?_
  refine ab_getf (fs := mof m_thrown m_taped m_length m_out m_wide m_gathered m_sets m_ranges m_nodes m_at m_flags m_fault m_place m_numbered m_depth m_value m_isNot m_least0 m_most0 m_slot m_work m_got m_rowMany m_charAt m_charWide m_trail m_isMatch m_matchGroups m_allFrom m_allBefore m_founds m_pieces m_writtenMany m_templateWide m_tooMuch) f_MO_167 d_MO_goRow_10 h80.2.2 rfl ?_
  refine ab_iload_n d_MO_goRow_13 rfl ?_
  refine ab_aload_n d_MO_goRow_14 rfl ?_
  refine ab_getf (fs := mof m_thrown m_taped m_length m_out m_wide m_gathered m_sets m_ranges m_nodes m_at m_flags m_fault m_place m_numbered m_depth m_value m_isNot m_least0 m_most0 m_slot m_work m_got m_rowMany m_charAt m_charWide m_trail m_isMatch m_matchGroups m_allFrom m_allBefore m_founds m_pieces m_writtenMany m_templateWide m_tooMuch) f_MO_448 d_MO_goRow_15 h80.2.2 rfl ?_
  refine zz_iast d_MO_goRow_18 h131 (by omega) (h131.2.1 (by decide)) ?_
  obtain ⟨G3, eG3⟩ : ∃ z : ab_G, z = List.set G 131 (za 300 (zu WG w m_got)) := ⟨_, rfl⟩
  have h80 := h80.keep h131 eG3 (by decide)
  have h94 := h94.keep h131 eG3 (by decide)
  have h95 := h95.keep h131 eG3 (by decide)
  have h96 := h96.keep h131 eG3 (by decide)
  have h97 := h97.keep h131 eG3 (by decide)
  have h98 := h98.keep h131 eG3 (by decide)
  have h99 := h99.keep h131 eG3 (by decide)
  have h100 := h100.keep h131 eG3 (by decide)
  have h101 := h101.keep h131 eG3 (by decide)
  have h90 := h90.keep h131 eG3 (by decide)
  have h89 := h89.keep h131 eG3 (by decide)
  have h91 := h91.keep h131 eG3 (by decide)
  have h92 := h92.keep h131 eG3 (by decide)
  have h118 := h118.keep h131 eG3 (by decide)
  have h119 := h119.keep h131 eG3 (by decide)
  have h120 := h120.keep h131 eG3 (by decide)
  have h121 := h121.keep h131 eG3 (by decide)
  have h122 := h122.keep h131 eG3 (by decide)
  have h123 := h123.keep h131 eG3 (by decide)
  have h124 := h124.keep h131 eG3 (by decide)
  have h117 := h117.keep h131 eG3 (by decide)
  have h125 := h125.keep h131 eG3 (by decide)
  have h133 := h133.keep h131 eG3 (by decide)
  have h128 := h128.keep h131 eG3 (by decide)
  have h129 := h129.keep h131 eG3 (by decide)
  have h130 := h130.keep h131 eG3 (by decide)
  have h132 := h132.keep h131 eG3 (by decide)
  have hlen := (z_len eG3).trans hlen
  have hsl := (z_sl h131 eG3 rfl).trans hsl
  have hfr := hfr.wr h131 eG3 (by decide)
  have h131 := h131.kept eG3
  change ab_W _ _ _ (List.set G 131 (za 300 (zu WG w m_got))) 19 [some (vR 80), some (vz w), none] [] _
  rw [← eG3]
  refine ab_aload_n d_MO_goRow_19 rfl ?_
  refine ab_aload_n d_MO_goRow_20 rfl ?_
  refine ab_getf (fs := mof m_thrown m_taped m_length m_out m_wide m_gathered m_sets m_ranges m_nodes m_at m_flags m_fault m_place m_numbered m_depth m_value m_isNot m_least0 m_most0 m_slot m_work m_got m_rowMany m_charAt m_charWide m_trail m_isMatch m_matchGroups m_allFrom m_allBefore m_founds m_pieces m_writtenMany m_templateWide m_tooMuch) f_MO_158 d_MO_goRow_21 h80.2.2 rfl ?_
  refine ab_iload_n d_MO_goRow_24 rfl ?_
  refine zz_iald d_MO_goRow_25 h128 (by omega) ?_
  have hq4 := gwp w (by omega) (by omega)
  refine ab_aload_n d_MO_goRow_26 rfl ?_
  refine ab_getf (fs := mof m_thrown m_taped m_length m_out m_wide m_gathered m_sets m_ranges m_nodes m_at m_flags m_fault m_place m_numbered m_depth m_value m_isNot m_least0 m_most0 m_slot m_work m_got m_rowMany m_charAt m_charWide m_trail m_isMatch m_matchGroups m_allFrom m_allBefore m_founds m_pieces m_writtenMany m_templateWide m_tooMuch) f_MO_170 d_MO_goRow_27 h80.2.2 rfl ?_
  refine ab_iload_n d_MO_goRow_30 rfl ?_
  refine zz_iald d_MO_goRow_31 h132 (by omega) ?_
  have hq5 := gws w (by omega) (by omega)
  refine ab_callV (d' := d - 1) (as := [vz (WP w), vz (WS w)]) (st := []) (r := _) (z_MO_fromEnd (o := o) (m_thrown := m_thrown) (m_taped := m_taped) (m_length := m_length) (m_out := m_out) (m_wide := m_wide) (m_gathered := m_gathered) (m_sets := m_sets) (m_ranges := m_ranges) (m_nodes := m_nodes) (m_at := m_at) (m_flags := m_flags) (m_fault := m_fault) (m_place := m_place) (m_numbered := m_numbered) (m_depth := m_depth) (m_value := m_value) (m_isNot := m_isNot) (m_least0 := m_least0) (m_most0 := m_most0) (m_slot := m_slot) (m_work := m_work) (m_got := m_got) (m_rowMany := m_rowMany) (m_charAt := m_charAt) (m_charWide := m_charWide) (m_trail := m_trail) (m_isMatch := m_isMatch) (m_matchGroups := m_matchGroups) (m_allFrom := m_allFrom) (m_allBefore := m_allBefore) (m_founds := m_founds) (m_pieces := m_pieces) (m_writtenMany := m_writtenMany) (m_templateWide := m_templateWide) (m_tooMuch := m_tooMuch) (K := K) (O := O) (Fi := Fi) (Be := Be) (Le := Le) (Mo := Mo) (Z := Z) (SM := SM) (k := (WS w)) (x := (WP w)) (ns := ns) (pa := pa) (po := po) (MN := MN) (dl := dl) (st := st) (ht := ht) (hh := hh) (PS := PS) (T_ := T_) (QF := QF) (QL := QL) (AF := AF) (AL := AL) (SD := SD) (nd := nd) h80 h96 h97 jG (by omega) jfi jf (by omega) (by omega)) (fun oc G2 h => by rcases h with ⟨h, _⟩ | ⟨_, h, _⟩ <;> exact ⟨_, h⟩) (by omega) m_MO_fromEnd ml_MO_457 im_MO_fromEnd se_MO_fromEnd c_MO h80.2.2 (Nat.le_of_ble_eq_true rfl) d_MO_goRow_32 rfl ?_
  intro v G6 hq
  rcases hq with ⟨hv, hfk, hlk, hsk, hq7⟩ | ⟨c28, hv, hfk, hlk, hsk, hq9, hq10, hq11⟩
  · cases hv
    have h80 := hfk.get h80 (by decide)
    have h94 := hfk.get h94 (by decide)
    have h95 := hfk.get h95 (by decide)
    have h96 := hfk.get h96 (by decide)
    have h97 := hfk.get h97 (by decide)
    have h98 := hfk.get h98 (by decide)
    have h99 := hfk.get h99 (by decide)
    have h100 := hfk.get h100 (by decide)
    have h101 := hfk.get h101 (by decide)
    have h90 := hfk.get h90 (by decide)
    have h89 := hfk.get h89 (by decide)
    have h91 := hfk.get h91 (by decide)
    have h92 := hfk.get h92 (by decide)
    have h118 := hfk.get h118 (by decide)
    have h119 := hfk.get h119 (by decide)
    have h120 := hfk.get h120 (by decide)
    have h121 := hfk.get h121 (by decide)
    have h122 := hfk.get h122 (by decide)
    have h123 := hfk.get h123 (by decide)
    have h124 := hfk.get h124 (by decide)
    have h117 := hfk.get h117 (by decide)
    have h125 := hfk.get h125 (by decide)
    have h133 := hfk.get h133 (by decide)
    have h128 := hfk.get h128 (by decide)
    have h129 := hfk.get h129 (by decide)
    have h130 := hfk.get h130 (by decide)
    have h131 := hfk.get h131 (by decide)
    have h132 := hfk.get h132 (by decide)
    have hfr := hfr.tr hfk (by decide)
    have hlen := hlk.trans hlen
    have hsl := hsk.trans hsl
    change ab_W _ _ _ G6 35 [some (vR 80), some (vz w), none] [vz (-1)] _
    refine ab_istore_n d_MO_goRow_35 (Nat.le_of_ble_eq_true rfl) (Nat.le_of_ble_eq_true rfl) rfl ?_
    change ab_W _ _ _ G6 36 [some (vR 80), some (vz w), some (vz (-1))] [] _
    refine ab_iload_n d_MO_goRow_36 rfl ?_
    refine zz_if_ge (tgt := 51) d_MO_goRow_37 (by decide) (by decide) (fun c12 => absurd c12 (by decide)) (fun c12 => ?_)
    refine ab_aload_n d_MO_goRow_40 rfl ?_
    refine ab_aload_n d_MO_goRow_41 rfl ?_
    refine ab_getf (fs := mof m_thrown m_taped m_length m_out m_wide m_gathered m_sets m_ranges m_nodes m_at m_flags m_fault m_place m_numbered m_depth m_value m_isNot m_least0 m_most0 m_slot m_work m_got m_rowMany m_charAt m_charWide m_trail m_isMatch m_matchGroups m_allFrom m_allBefore m_founds m_pieces m_writtenMany m_templateWide m_tooMuch) f_MO_167 d_MO_goRow_42 h80.2.2 rfl ?_
    refine ab_iload_n d_MO_goRow_45 rfl ?_
    refine zz_iald d_MO_goRow_46 h131 (by omega) ?_
    refine zz_top (zu_self _ _ _) ?_
    refine ab_callV (d' := d - 1) (as := [vz m_got]) (st := []) (r := _) (z_MO_done (o := o) (m_thrown := m_thrown) (m_taped := m_taped) (m_length := m_length) (m_out := m_out) (m_wide := m_wide) (m_gathered := m_gathered) (m_sets := m_sets) (m_ranges := m_ranges) (m_nodes := m_nodes) (m_at := m_at) (m_flags := m_flags) (m_fault := m_fault) (m_place := m_place) (m_numbered := m_numbered) (m_depth := m_depth) (m_value := m_value) (m_isNot := m_isNot) (m_least0 := m_least0) (m_most0 := m_most0) (m_slot := m_slot) (m_work := m_work) (m_got := m_got) (m_rowMany := m_rowMany) (m_charAt := m_charAt) (m_charWide := m_charWide) (m_trail := m_trail) (m_isMatch := m_isMatch) (m_matchGroups := m_matchGroups) (m_allFrom := m_allFrom) (m_allBefore := m_allBefore) (m_founds := m_founds) (m_pieces := m_pieces) (m_writtenMany := m_writtenMany) (m_templateWide := m_templateWide) (m_tooMuch := m_tooMuch) (x := m_got) h80 (by omega)) (fun oc G2 h => by rcases h with ⟨h, _⟩ <;> exact ⟨_, h⟩) (by omega) m_MO_done ml_MO_461 im_MO_done se_MO_done c_MO h80.2.2 (Nat.le_of_ble_eq_true rfl) d_MO_goRow_47 rfl ?_
    intro v G13 hq
    rcases hq with ⟨hv, hfk, hlk, hsk, hN80⟩
    cases hv
    have h94 := hfk.get h94 (by decide)
    have h95 := hfk.get h95 (by decide)
    have h96 := hfk.get h96 (by decide)
    have h97 := hfk.get h97 (by decide)
    have h98 := hfk.get h98 (by decide)
    have h99 := hfk.get h99 (by decide)
    have h100 := hfk.get h100 (by decide)
    have h101 := hfk.get h101 (by decide)
    have h90 := hfk.get h90 (by decide)
    have h89 := hfk.get h89 (by decide)
    have h91 := hfk.get h91 (by decide)
    have h92 := hfk.get h92 (by decide)
    have h118 := hfk.get h118 (by decide)
    have h119 := hfk.get h119 (by decide)
    have h120 := hfk.get h120 (by decide)
    have h121 := hfk.get h121 (by decide)
    have h122 := hfk.get h122 (by decide)
    have h123 := hfk.get h123 (by decide)
    have h124 := hfk.get h124 (by decide)
    have h117 := hfk.get h117 (by decide)
    have h125 := hfk.get h125 (by decide)
    have h133 := hfk.get h133 (by decide)
    have h128 := hfk.get h128 (by decide)
    have h129 := hfk.get h129 (by decide)
    have h130 := hfk.get h130 (by decide)
    have h131 := hfk.get h131 (by decide)
    have h132 := hfk.get h132 (by decide)
    have hfr := hfr.tr hfk (by decide)
    have hlen := hlk.trans hlen
    have hsl := hsk.trans hsl
    have h80 := hN80
    change ab_W _ _ _ G13 50 [some (vR 80), some (vz w), some (vz (-1))] [] _
    refine ab_vret rfl d_MO_goRow_50 ?_
    rw [hQ]; exact (Or.inl ⟨_, _, _, _, _, _, rfl, hfr, hlen, hsl, h80, h128, h129, h130, h131, h132, (by first | exact gwp | exact rgs_w gwp (by omega)), (by first | exact gwd | exact rgs_w gwd (by omega)), (by first | exact gwt | exact rgs_w gwt (by omega)), (by first | exact (rgs_zu gwg (by omega)) | exact rgs_w (rgs_zu gwg (by omega)) (by omega)), (by first | exact gws | exact rgs_w gws (by omega)), (by exact fun j_ a_ => ⟨rfl, rfl, rfl, by rw [zu_ne (by omega)], rfl⟩), (by first | rfl | (rw [zu_self]; done) | omega), (by omega)⟩)
  · cases hv
    have h80 := hfk.get h80 (by decide)
    have h94 := hfk.get h94 (by decide)
    have h95 := hfk.get h95 (by decide)
    have h96 := hfk.get h96 (by decide)
    have h97 := hfk.get h97 (by decide)
    have h98 := hfk.get h98 (by decide)
    have h99 := hfk.get h99 (by decide)
    have h100 := hfk.get h100 (by decide)
    have h101 := hfk.get h101 (by decide)
    have h90 := hfk.get h90 (by decide)
    have h89 := hfk.get h89 (by decide)
    have h91 := hfk.get h91 (by decide)
    have h92 := hfk.get h92 (by decide)
    have h118 := hfk.get h118 (by decide)
    have h119 := hfk.get h119 (by decide)
    have h120 := hfk.get h120 (by decide)
    have h121 := hfk.get h121 (by decide)
    have h122 := hfk.get h122 (by decide)
    have h123 := hfk.get h123 (by decide)
    have h124 := hfk.get h124 (by decide)
    have h117 := hfk.get h117 (by decide)
    have h125 := hfk.get h125 (by decide)
    have h133 := hfk.get h133 (by decide)
    have h128 := hfk.get h128 (by decide)
    have h129 := hfk.get h129 (by decide)
    have h130 := hfk.get h130 (by decide)
    have h131 := hfk.get h131 (by decide)
    have h132 := hfk.get h132 (by decide)
    have hfr := hfr.tr hfk (by decide)
    have hlen := hlk.trans hlen
    have hsl := hsk.trans hsl
    change ab_W _ _ _ G6 35 [some (vR 80), some (vz w), none] [vz c28] _
    refine ab_istore_n d_MO_goRow_35 (Nat.le_of_ble_eq_true rfl) (Nat.le_of_ble_eq_true rfl) rfl ?_
    change ab_W _ _ _ G6 36 [some (vR 80), some (vz w), some (vz c28)] [] _
    refine ab_iload_n d_MO_goRow_36 rfl ?_
    refine zz_if_ge (tgt := 51) d_MO_goRow_37 (by decide) (by omega) (fun c14 => ?_) (fun c14 => absurd c14 (by omega))
    refine ab_aload_n d_MO_goRow_51 rfl ?_
    refine ab_getf (fs := mof m_thrown m_taped m_length m_out m_wide m_gathered m_sets m_ranges m_nodes m_at m_flags m_fault m_place m_numbered m_depth m_value m_isNot m_least0 m_most0 m_slot m_work m_got m_rowMany m_charAt m_charWide m_trail m_isMatch m_matchGroups m_allFrom m_allBefore m_founds m_pieces m_writtenMany m_templateWide m_tooMuch) f_MO_170 d_MO_goRow_52 h80.2.2 rfl ?_
    refine ab_iload_n d_MO_goRow_55 rfl ?_
    refine ab_dup2 d_MO_goRow_56 rfl rfl ?_
    refine zz_iald d_MO_goRow_57 h132 (by omega) ?_
    have hq15 := gws w (by omega) (by omega)
    refine zz_iconst d_MO_goRow_58 ?_
    refine zz_iadd d_MO_goRow_59 ?_
    refine zz_iast d_MO_goRow_60 h132 (by omega) (h132.2.1 (by decide)) ?_
    obtain ⟨G16, eG16⟩ : ∃ z : ab_G, z = List.set G6 132 (za 300 (zu WS w ((WS w) + 1))) := ⟨_, rfl⟩
    have h80 := h80.keep h132 eG16 (by decide)
    have h94 := h94.keep h132 eG16 (by decide)
    have h95 := h95.keep h132 eG16 (by decide)
    have h96 := h96.keep h132 eG16 (by decide)
    have h97 := h97.keep h132 eG16 (by decide)
    have h98 := h98.keep h132 eG16 (by decide)
    have h99 := h99.keep h132 eG16 (by decide)
    have h100 := h100.keep h132 eG16 (by decide)
    have h101 := h101.keep h132 eG16 (by decide)
    have h90 := h90.keep h132 eG16 (by decide)
    have h89 := h89.keep h132 eG16 (by decide)
    have h91 := h91.keep h132 eG16 (by decide)
    have h92 := h92.keep h132 eG16 (by decide)
    have h118 := h118.keep h132 eG16 (by decide)
    have h119 := h119.keep h132 eG16 (by decide)
    have h120 := h120.keep h132 eG16 (by decide)
    have h121 := h121.keep h132 eG16 (by decide)
    have h122 := h122.keep h132 eG16 (by decide)
    have h123 := h123.keep h132 eG16 (by decide)
    have h124 := h124.keep h132 eG16 (by decide)
    have h117 := h117.keep h132 eG16 (by decide)
    have h125 := h125.keep h132 eG16 (by decide)
    have h133 := h133.keep h132 eG16 (by decide)
    have h128 := h128.keep h132 eG16 (by decide)
    have h129 := h129.keep h132 eG16 (by decide)
    have h130 := h130.keep h132 eG16 (by decide)
    have h131 := h131.keep h132 eG16 (by decide)
    have hlen := (z_len eG16).trans hlen
    have hsl := (z_sl h132 eG16 rfl).trans hsl
    have hfr := hfr.wr h132 eG16 (by decide)
    have h132 := h132.kept eG16
    change ab_W _ _ _ (List.set G6 132 (za 300 (zu WS w ((WS w) + 1)))) 61 [some (vR 80), some (vz w), some (vz c28)] [] _
    rw [← eG16]
    refine ab_aload_n d_MO_goRow_61 rfl ?_
    refine ab_iload_n d_MO_goRow_62 rfl ?_
    refine ab_aload_n d_MO_goRow_63 rfl ?_
    refine ab_getf (fs := mof m_thrown m_taped m_length m_out m_wide m_gathered m_sets m_ranges m_nodes m_at m_flags m_fault m_place m_numbered m_depth m_value m_isNot m_least0 m_most0 m_slot m_work m_got m_rowMany m_charAt m_charWide m_trail m_isMatch m_matchGroups m_allFrom m_allBefore m_founds m_pieces m_writtenMany m_templateWide m_tooMuch) f_MO_161 d_MO_goRow_64 h80.2.2 rfl ?_
    refine ab_iload_n d_MO_goRow_67 rfl ?_
    refine zz_iald d_MO_goRow_68 h129 (by omega) ?_
    have hq17 := gwd w (by omega) (by omega)
    refine ab_aload_n d_MO_goRow_69 rfl ?_
    refine ab_getf (fs := mof m_thrown m_taped m_length m_out m_wide m_gathered m_sets m_ranges m_nodes m_at m_flags m_fault m_place m_numbered m_depth m_value m_isNot m_least0 m_most0 m_slot m_work m_got m_rowMany m_charAt m_charWide m_trail m_isMatch m_matchGroups m_allFrom m_allBefore m_founds m_pieces m_writtenMany m_templateWide m_tooMuch) f_MO_167 d_MO_goRow_70 h80.2.2 rfl ?_
    refine ab_iload_n d_MO_goRow_73 rfl ?_
    refine zz_iald d_MO_goRow_74 h131 (by omega) ?_
    refine zz_top (zu_self _ _ _) ?_
    refine ab_callV (d' := d - 1) (as := [vz c28, vz (WD w), vz m_got]) (st := []) (r := _) (z_MO_open (o := o) (m_thrown := m_thrown) (m_taped := m_taped) (m_length := m_length) (m_out := m_out) (m_wide := m_wide) (m_gathered := m_gathered) (m_sets := m_sets) (m_ranges := m_ranges) (m_nodes := m_nodes) (m_at := m_at) (m_flags := m_flags) (m_fault := m_fault) (m_place := m_place) (m_numbered := m_numbered) (m_depth := m_depth) (m_value := m_value) (m_isNot := m_isNot) (m_least0 := m_least0) (m_most0 := m_most0) (m_slot := m_slot) (m_work := m_work) (m_got := m_got) (m_rowMany := m_rowMany) (m_charAt := m_charAt) (m_charWide := m_charWide) (m_trail := m_trail) (m_isMatch := m_isMatch) (m_matchGroups := m_matchGroups) (m_allFrom := m_allFrom) (m_allBefore := m_allBefore) (m_founds := m_founds) (m_pieces := m_pieces) (m_writtenMany := m_writtenMany) (m_templateWide := m_templateWide) (m_tooMuch := m_tooMuch) (WP := WP) (WD := WD) (WT := WT) (WG := (zu WG w m_got)) (WS := (zu WS w ((WS w) + 1))) (to := m_got) (x := c28) (y := (WD w)) h80 h128 h129 h130 h131 h132 (by omega) (by omega)) (fun oc G2 h => by rcases h with ⟨h, _⟩ <;> exact ⟨_, h⟩) (by omega) m_MO_open ml_MO_464 im_MO_open se_MO_open c_MO h80.2.2 (Nat.le_of_ble_eq_true rfl) d_MO_goRow_75 rfl ?_
    intro v G18 hq
    rcases hq with ⟨hv, hfk, hlk, hsk, hN80, hN128, hN129, hN130, hN131, hN132⟩
    cases hv
    have h94 := hfk.get h94 (by decide)
    have h95 := hfk.get h95 (by decide)
    have h96 := hfk.get h96 (by decide)
    have h97 := hfk.get h97 (by decide)
    have h98 := hfk.get h98 (by decide)
    have h99 := hfk.get h99 (by decide)
    have h100 := hfk.get h100 (by decide)
    have h101 := hfk.get h101 (by decide)
    have h90 := hfk.get h90 (by decide)
    have h89 := hfk.get h89 (by decide)
    have h91 := hfk.get h91 (by decide)
    have h92 := hfk.get h92 (by decide)
    have h118 := hfk.get h118 (by decide)
    have h119 := hfk.get h119 (by decide)
    have h120 := hfk.get h120 (by decide)
    have h121 := hfk.get h121 (by decide)
    have h122 := hfk.get h122 (by decide)
    have h123 := hfk.get h123 (by decide)
    have h124 := hfk.get h124 (by decide)
    have h117 := hfk.get h117 (by decide)
    have h125 := hfk.get h125 (by decide)
    have h133 := hfk.get h133 (by decide)
    have hfr := hfr.tr hfk (by decide)
    have hlen := hlk.trans hlen
    have hsl := hsk.trans hsl
    have h80 := hN80
    have h128 := hN128
    have h129 := hN129
    have h130 := hN130
    have h131 := hN131
    have h132 := hN132
    change ab_W _ _ _ G18 78 [some (vR 80), some (vz w), some (vz c28)] [] _
    refine ab_vret rfl d_MO_goRow_78 ?_
    rw [hQ]; exact (Or.inr ⟨_, _, m_got, _, _, _, _, _, rfl, hfr, hlen, hsl, h80, h128, h129, h130, h131, h132, (by first | exact (rgs_zu gwp (by omega)) | exact rgs_w (rgs_zu gwp (by omega)) (by omega)), (by first | exact (rgs_zu gwd (by omega)) | exact rgs_w (rgs_zu gwd (by omega)) (by omega)), (by first | exact (rgs_zu gwt (by omega)) | exact rgs_w (rgs_zu gwt (by omega)) (by omega)), (by first | exact (rgs_zu (rgs_zu gwg (by omega)) (by omega)) | exact rgs_w (rgs_zu (rgs_zu gwg (by omega)) (by omega)) (by omega)), (by first | exact (rgs_zu (rgs_zu gws (by omega)) (by omega)) | exact rgs_w (rgs_zu (rgs_zu gws (by omega)) (by omega)) (by omega)), (by exact fun j_ a_ => ⟨by rw [zu_ne (by omega)], by rw [zu_ne (by omega)], by rw [zu_ne (by omega)], by rw [zu_ne (by omega), zu_ne (by omega)], by rw [zu_ne (by omega), zu_ne (by omega)]⟩), (by rw [zu_self]), (by rw [zu_self]), (by rw [zu_self]), (by rw [zu_self]), (by rw [zu_self]), (by rw [zu_ne (show w ≠ m_work by omega)]), (by rw [zu_ne (show w ≠ m_work by omega)]), (by rw [zu_ne (show w ≠ m_work by omega)]), (by rw [zu_ne (show w ≠ m_work by omega), zu_self]), (by rw [zu_ne (show w ≠ m_work by omega), zu_self] <;> omega), (by omega), (by first | rfl | (rw [zu_self]; done) | omega), (by first | rfl | (rw [zu_self]; done) | omega), (by omega), (by exact hq10), (by exact hq11)⟩)
set_option maxRecDepth 100000 in
set_option maxHeartbeats 4000000 in
theorem z_MO_goEither_0 {X : ab_X} {d : Nat} {o : Nat → Nat} {G : ab_G} {m_thrown : Int} {m_taped : Int} {m_length : Int} {m_out : Int} {m_wide : Int} {m_gathered : Int} {m_sets : Int} {m_ranges : Int} {m_nodes : Int} {m_at : Int} {m_flags : Int} {m_fault : Int} {m_place : Int} {m_numbered : Int} {m_depth : Int} {m_value : Int} {m_isNot : Int} {m_least0 : Int} {m_most0 : Int} {m_slot : Int} {m_work : Int} {m_got : Int} {m_rowMany : Int} {m_charAt : Int} {m_charWide : Int} {m_trail : Int} {m_isMatch : Int} {m_matchGroups : Int} {m_allFrom : Int} {m_allBefore : Int} {m_founds : Int} {m_pieces : Int} {m_writtenMany : Int} {m_templateWide : Int} {m_tooMuch : Int} {T : Int → Int} {N : Int → Int} {W : Int → Int} {CA : Int → Int} {CM : Int → Int} {CL : Int → Int} {CH : Int → Int} {SN : Int → Int} {CC : Int → Int} {RO : Int → Int} {WP : Int → Int} {WD : Int → Int} {WT : Int → Int} {WG : Int → Int} {WS : Int → Int} {K : Int → Int} {O : Int → Int} {Fi : Int → Int} {Be : Int → Int} {Le : Int → Int} {Mo : Int → Int} {Z : Int → Int} {LZ : Int → Int} {SM : Int → Int} {SA : Int → Int} {RL : Int → Int} {RH : Int → Int} {w : Int} {ns : Int} {pa : Int → Int} {po : Int → Int} {MN : Int → Int} {dl : Int → Int} {st : Int → Int} {ht : Int → Int} {hh : Int → Int} {PS : Int → Int → Int} {T_ : Int} {QF : Int → Int} {QL : Int → Int} {AF : Int → Int} {AL : Int → Int} {SD : Int → Int} {nd : Int} (h80 : cc o G 80 280 (ab_ob 12 (mof m_thrown m_taped m_length m_out m_wide m_gathered m_sets m_ranges m_nodes m_at m_flags m_fault m_place m_numbered m_depth m_value m_isNot m_least0 m_most0 m_slot m_work m_got m_rowMany m_charAt m_charWide m_trail m_isMatch m_matchGroups m_allFrom m_allBefore m_founds m_pieces m_writtenMany m_templateWide m_tooMuch))) (h94 : cc o G 94 294 (za 4200 K)) (h95 : cc o G 95 295 (za 4200 O)) (h96 : cc o G 96 296 (za 4200 Fi)) (h97 : cc o G 97 297 (za 4200 Be)) (h98 : cc o G 98 298 (za 4200 Le)) (h99 : cc o G 99 299 (za 4200 Mo)) (h100 : cc o G 100 300 (zl 4200 Z)) (h101 : cc o G 101 301 (zb 4200 LZ)) (h90 : cc o G 90 290 (za 2100 SM)) (h89 : cc o G 89 289 (za 2100 SA)) (h91 : cc o G 91 291 (za 24000 RL)) (h92 : cc o G 92 292 (za 24000 RH)) (h118 : cc o G 118 318 (za 75000 T)) (h119 : cc o G 119 319 (za 75000 N)) (h120 : cc o G 120 320 (za 75000 W)) (h121 : cc o G 121 321 (za 75000 CA)) (h122 : cc o G 122 322 (za 75000 CM)) (h123 : cc o G 123 323 (za 3600 CL)) (h124 : cc o G 124 324 (za 3600 CH)) (h117 : cc o G 117 317 (za 6 SN)) (h125 : cc o G 125 325 (za 6 CC)) (h133 : cc o G 133 333 (za 40000 RO)) (h128 : cc o G 128 328 (za 300 WP)) (h129 : cc o G 129 329 (za 300 WD)) (h130 : cc o G 130 330 (za 300 WT)) (h131 : cc o G 131 331 (za 300 WG)) (h132 : cc o G 132 332 (za 300 WS)) (n18 : ab_n0 = 18) (csl : 0 ≤ m_slot ∧ m_slot ≤ 5) (jrl : rgs RL 24000 0 1114111) (jrh : rgs RH 24000 0 1114111) (jk : rgs K 4200 0 7) (jo : rgs O 4200 (-1) 3000) (jfi : rgs Fi 4200 (-1) 4199) (jbe : rgs Be 4200 (-1) 4199) (jle : rgs Le 4200 0 1000) (jmo : rgs Mo 4200 (-1) 1000) (jz : rgs Z 4200 (-1) 1000000000000) (jlz : rgs LZ 4200 0 1) (jsm : rgs SM 2100 0 24000) (jsa : rgs SA 2100 0 24000) (gt : rgs T 75000 0 6) (gn : rgs N 75000 (-1) 12499) (gw : rgs W 75000 (-1) 12499) (gca : rgs CA 75000 0 3600) (gcm : rgs CM 75000 0 24000) (gcl : rgs CL 3600 0 1114111) (gch : rgs CH 3600 0 1114111) (gsn : rgs SN 6 0 12500) (gcc : rgs CC 6 0 600) (gro : rgs RO 40000 0 12499) (gwp : rgs WP 300 0 4199) (gwd : rgs WD 300 0 31) (gwt : rgs WT 300 0 39968) (gwg : rgs WG 300 0 39968) (gws : rgs WS 300 0 4300) (jka : tka T W CA CM SM SA RL RH CL CH (12500 * m_slot) (SN m_slot) m_slot (CC m_slot) ns) (jss : sas SA SM ns) (cst : 0 ≤ m_rowMany ∧ m_rowMany ≤ 1250 ∧ 0 ≤ (SN m_slot) ∧ (SN m_slot) ≤ 12500 ∧ 0 ≤ ns ∧ ns ≤ 2100) (cw : 0 ≤ w ∧ m_work = w + 1 ∧ w < 299) (cx : 0 ≤ WP w ∧ WP w < nd ∧ 0 ≤ nd ∧ nd ≤ 4200 ∧ 0 ≤ WD w ∧ WD w ≤ 31 ∧ 0 ≤ WT w ∧ WT w + 32 ≤ 32 * m_rowMany) (jG : rtG K O Fi Be Le Mo Z SM QF QL AF AL SD nd ns 0 pa po MN dl st ht hh PS T_) (ck : K (WP w) = 5) (jf : rtF nd pa po MN (WP w) (Fi (WP w))) (cws : 0 ≤ WS w ∧ WS w ≤ 4200) (cs0 : WS w = 0) (hd : 4 ≤ d) : ab_F X d y_MO_goEither (.code y_MO_goEither b_MO_goEither 3 none) [vR 80, vz w] G (fun oc G2 => (∃ g2 : Int, ∃ WP2 : Int → Int, ∃ WD2 : Int → Int, ∃ WT2 : Int → Int, ∃ WG2 : Int → Int, ∃ WS2 : Int → Int, oc = .returned none ∧ fx o o [280, 328, 329, 330, 331, 332] G G2 ∧ G2.length = G.length ∧ ab_slots G2 = ab_slots G ∧ cc o G2 80 280 (ab_ob 12 (mof m_thrown m_taped m_length m_out m_wide m_gathered m_sets m_ranges m_nodes m_at m_flags m_fault m_place m_numbered m_depth m_value m_isNot m_least0 m_most0 m_slot (m_work - 1) g2 m_rowMany m_charAt m_charWide m_trail m_isMatch m_matchGroups m_allFrom m_allBefore m_founds m_pieces m_writtenMany m_templateWide m_tooMuch)) ∧ cc o G2 128 328 (za 300 WP2) ∧ cc o G2 129 329 (za 300 WD2) ∧ cc o G2 130 330 (za 300 WT2) ∧ cc o G2 131 331 (za 300 WG2) ∧ cc o G2 132 332 (za 300 WS2) ∧ (rgs WP2 300 0 4199) ∧ (rgs WD2 300 0 31) ∧ (rgs WT2 300 0 39968) ∧ (rgs WG2 300 0 39968) ∧ (rgs WS2 300 0 4300) ∧ (fsm WP WD WT WG WS WP2 WD2 WT2 WG2 WS2 w) ∧ (g2 = WG w) ∧ (MN (WP w) ≤ WS w ∧ 0 ≤ MN (WP w))) ∨ (∃ c2 : Int, ∃ t2 : Int, ∃ u2 : Int, ∃ WP2 : Int → Int, ∃ WD2 : Int → Int, ∃ WT2 : Int → Int, ∃ WG2 : Int → Int, ∃ WS2 : Int → Int, oc = .returned none ∧ fx o o [280, 328, 329, 330, 331, 332] G G2 ∧ G2.length = G.length ∧ ab_slots G2 = ab_slots G ∧ cc o G2 80 280 (ab_ob 12 (mof m_thrown m_taped m_length m_out m_wide m_gathered m_sets m_ranges m_nodes m_at m_flags m_fault m_place m_numbered m_depth m_value m_isNot m_least0 m_most0 m_slot (m_work + 1) m_got m_rowMany m_charAt m_charWide m_trail m_isMatch m_matchGroups m_allFrom m_allBefore m_founds m_pieces m_writtenMany m_templateWide m_tooMuch)) ∧ cc o G2 128 328 (za 300 WP2) ∧ cc o G2 129 329 (za 300 WD2) ∧ cc o G2 130 330 (za 300 WT2) ∧ cc o G2 131 331 (za 300 WG2) ∧ cc o G2 132 332 (za 300 WS2) ∧ (rgs WP2 300 0 4199) ∧ (rgs WD2 300 0 31) ∧ (rgs WT2 300 0 39968) ∧ (rgs WG2 300 0 39968) ∧ (rgs WS2 300 0 4300) ∧ (fsm WP WD WT WG WS WP2 WD2 WT2 WG2 WS2 w) ∧ (WP2 m_work = c2) ∧ (WD2 m_work = WD w) ∧ (WT2 m_work = t2) ∧ (WG2 m_work = t2) ∧ (WS2 m_work = 0) ∧ (WP2 w = WP w) ∧ (WD2 w = WD w) ∧ (WT2 w = WT w) ∧ (WG2 w = u2) ∧ (WS2 w = (WS w + 1)) ∧ (0 ≤ c2 ∧ c2 < nd) ∧ (t2 = WT w) ∧ (u2 = WG w) ∧ (WS w < MN (WP w) ∧ MN (WP w) ≤ 4200) ∧ (pa c2 = WP w ∧ po c2 = MN (WP w) - 1 - WS w) ∧ (nthI Fi Be (WP w) (MN (WP w) - 1 - WS w) c2))) := by
  refine ab_F_of (by decide +kernel) (Nat.le_of_ble_eq_true rfl) ?_
  obtain ⟨Q, hQ⟩ : ∃ z : Outcome → ab_G → Prop, z = (fun oc G2 => (∃ g2 : Int, ∃ WP2 : Int → Int, ∃ WD2 : Int → Int, ∃ WT2 : Int → Int, ∃ WG2 : Int → Int, ∃ WS2 : Int → Int, oc = .returned none ∧ fx o o [280, 328, 329, 330, 331, 332] G G2 ∧ G2.length = G.length ∧ ab_slots G2 = ab_slots G ∧ cc o G2 80 280 (ab_ob 12 (mof m_thrown m_taped m_length m_out m_wide m_gathered m_sets m_ranges m_nodes m_at m_flags m_fault m_place m_numbered m_depth m_value m_isNot m_least0 m_most0 m_slot (m_work - 1) g2 m_rowMany m_charAt m_charWide m_trail m_isMatch m_matchGroups m_allFrom m_allBefore m_founds m_pieces m_writtenMany m_templateWide m_tooMuch)) ∧ cc o G2 128 328 (za 300 WP2) ∧ cc o G2 129 329 (za 300 WD2) ∧ cc o G2 130 330 (za 300 WT2) ∧ cc o G2 131 331 (za 300 WG2) ∧ cc o G2 132 332 (za 300 WS2) ∧ (rgs WP2 300 0 4199) ∧ (rgs WD2 300 0 31) ∧ (rgs WT2 300 0 39968) ∧ (rgs WG2 300 0 39968) ∧ (rgs WS2 300 0 4300) ∧ (fsm WP WD WT WG WS WP2 WD2 WT2 WG2 WS2 w) ∧ (g2 = WG w) ∧ (MN (WP w) ≤ WS w ∧ 0 ≤ MN (WP w))) ∨ (∃ c2 : Int, ∃ t2 : Int, ∃ u2 : Int, ∃ WP2 : Int → Int, ∃ WD2 : Int → Int, ∃ WT2 : Int → Int, ∃ WG2 : Int → Int, ∃ WS2 : Int → Int, oc = .returned none ∧ fx o o [280, 328, 329, 330, 331, 332] G G2 ∧ G2.length = G.length ∧ ab_slots G2 = ab_slots G ∧ cc o G2 80 280 (ab_ob 12 (mof m_thrown m_taped m_length m_out m_wide m_gathered m_sets m_ranges m_nodes m_at m_flags m_fault m_place m_numbered m_depth m_value m_isNot m_least0 m_most0 m_slot (m_work + 1) m_got m_rowMany m_charAt m_charWide m_trail m_isMatch m_matchGroups m_allFrom m_allBefore m_founds m_pieces m_writtenMany m_templateWide m_tooMuch)) ∧ cc o G2 128 328 (za 300 WP2) ∧ cc o G2 129 329 (za 300 WD2) ∧ cc o G2 130 330 (za 300 WT2) ∧ cc o G2 131 331 (za 300 WG2) ∧ cc o G2 132 332 (za 300 WS2) ∧ (rgs WP2 300 0 4199) ∧ (rgs WD2 300 0 31) ∧ (rgs WT2 300 0 39968) ∧ (rgs WG2 300 0 39968) ∧ (rgs WS2 300 0 4300) ∧ (fsm WP WD WT WG WS WP2 WD2 WT2 WG2 WS2 w) ∧ (WP2 m_work = c2) ∧ (WD2 m_work = WD w) ∧ (WT2 m_work = t2) ∧ (WG2 m_work = t2) ∧ (WS2 m_work = 0) ∧ (WP2 w = WP w) ∧ (WD2 w = WD w) ∧ (WT2 w = WT w) ∧ (WG2 w = u2) ∧ (WS2 w = (WS w + 1)) ∧ (0 ≤ c2 ∧ c2 < nd) ∧ (t2 = WT w) ∧ (u2 = WG w) ∧ (WS w < MN (WP w) ∧ MN (WP w) ≤ 4200) ∧ (pa c2 = WP w ∧ po c2 = MN (WP w) - 1 - WS w) ∧ (nthI Fi Be (WP w) (MN (WP w) - 1 - WS w) c2))) := ⟨_, rfl⟩
  rw [← hQ]
  change ab_W X (ab_pl y_MO_goEither b_MO_goEither 3 none) d G 0 [some (vR 80), some (vz w), none] [] Q
  have hfr : fx o o [280, 328, 329, 330, 331, 332] G G := fx.rf
  have hlen : G.length = G.length := rfl
  have hsl : ab_slots G = ab_slots G := rfl
  refine ab_aload_n d_MO_goEither_0 rfl ?_
  refine ab_getf (fs := mof m_thrown m_taped m_length m_out m_wide m_gathered m_sets m_ranges m_nodes m_at m_flags m_fault m_place m_numbered m_depth m_value m_isNot m_least0 m_most0 m_slot m_work m_got m_rowMany m_charAt m_charWide m_trail m_isMatch m_matchGroups m_allFrom m_allBefore m_founds m_pieces m_writtenMany m_templateWide m_tooMuch) f_MO_170 d_MO_goEither_1 h80.2.2 rfl ?_
  refine ab_iload_n d_MO_goEither_4 rfl ?_
  refine zz_iald d_MO_goEither_5 h132 (by omega) ?_
  have hq1 := gws w (by omega) (by omega)
  refine zz_iconst d_MO_goEither_6 ?_
  refine zz_icmp_ne (tgt := 20) d_MO_goEither_7 (by decide) (by omega) (by decide) (fun c2 => ?_) (fun c2 => absurd c2 (by omega))
  refine ab_aload_n d_MO_goEither_20 rfl ?_
  refine ab_getf (fs := mof m_thrown m_taped m_length m_out m_wide m_gathered m_sets m_ranges m_nodes m_at m_flags m_fault m_place m_numbered m_depth m_value m_isNot m_least0 m_most0 m_slot m_work m_got m_rowMany m_charAt m_charWide m_trail m_isMatch m_matchGroups m_allFrom m_allBefore m_founds m_pieces m_writtenMany m_templateWide m_tooMuch) f_MO_170 d_MO_goEither_21 h80.2.2 rfl ?_
  refine ab_iload_n d_MO_goEither_24 rfl ?_
  refine zz_iald d_MO_goEither_25 h132 (by omega) ?_
  have hq3 := gws w (by omega) (by omega)
  refine zz_iconst d_MO_goEither_26 ?_
  refine zz_icmp_le (tgt := 56) d_MO_goEither_27 (by decide) (by omega) (by decide) (fun c4 => ?_) (fun c4 => absurd c4 (by omega))
  refine ab_aload_n d_MO_goEither_56 rfl ?_
  refine ab_aload_n d_MO_goEither_57 rfl ?_
  refine ab_getf (fs := mof m_thrown m_taped m_length m_out m_wide m_gathered m_sets m_ranges m_nodes m_at m_flags m_fault m_place m_numbered m_depth m_value m_isNot m_least0 m_most0 m_slot m_work m_got m_rowMany m_charAt m_charWide m_trail m_isMatch m_matchGroups m_allFrom m_allBefore m_founds m_pieces m_writtenMany m_templateWide m_tooMuch) f_MO_158 d_MO_goEither_58 h80.2.2 rfl ?_
  refine ab_iload_n d_MO_goEither_61 rfl ?_
  refine zz_iald d_MO_goEither_62 h128 (by omega) ?_
  have hq5 := gwp w (by omega) (by omega)
  refine ab_aload_n d_MO_goEither_63 rfl ?_
  refine ab_getf (fs := mof m_thrown m_taped m_length m_out m_wide m_gathered m_sets m_ranges m_nodes m_at m_flags m_fault m_place m_numbered m_depth m_value m_isNot m_least0 m_most0 m_slot m_work m_got m_rowMany m_charAt m_charWide m_trail m_isMatch m_matchGroups m_allFrom m_allBefore m_founds m_pieces m_writtenMany m_templateWide m_tooMuch) f_MO_170 d_MO_goEither_64 h80.2.2 rfl ?_
  refine ab_iload_n d_MO_goEither_67 rfl ?_
  refine zz_iald d_MO_goEither_68 h132 (by omega) ?_
  have hq6 := gws w (by omega) (by omega)
  refine ab_callV (d' := d - 1) (as := [vz (WP w), vz (WS w)]) (st := []) (r := _) (z_MO_fromEnd (o := o) (m_thrown := m_thrown) (m_taped := m_taped) (m_length := m_length) (m_out := m_out) (m_wide := m_wide) (m_gathered := m_gathered) (m_sets := m_sets) (m_ranges := m_ranges) (m_nodes := m_nodes) (m_at := m_at) (m_flags := m_flags) (m_fault := m_fault) (m_place := m_place) (m_numbered := m_numbered) (m_depth := m_depth) (m_value := m_value) (m_isNot := m_isNot) (m_least0 := m_least0) (m_most0 := m_most0) (m_slot := m_slot) (m_work := m_work) (m_got := m_got) (m_rowMany := m_rowMany) (m_charAt := m_charAt) (m_charWide := m_charWide) (m_trail := m_trail) (m_isMatch := m_isMatch) (m_matchGroups := m_matchGroups) (m_allFrom := m_allFrom) (m_allBefore := m_allBefore) (m_founds := m_founds) (m_pieces := m_pieces) (m_writtenMany := m_writtenMany) (m_templateWide := m_templateWide) (m_tooMuch := m_tooMuch) (K := K) (O := O) (Fi := Fi) (Be := Be) (Le := Le) (Mo := Mo) (Z := Z) (SM := SM) (k := (WS w)) (x := (WP w)) (ns := ns) (pa := pa) (po := po) (MN := MN) (dl := dl) (st := st) (ht := ht) (hh := hh) (PS := PS) (T_ := T_) (QF := QF) (QL := QL) (AF := AF) (AL := AL) (SD := SD) (nd := nd) h80 h96 h97 jG (by omega) jfi jf (by omega) (by omega)) (fun oc G2 h => by rcases h with ⟨h, _⟩ | ⟨_, h, _⟩ <;> exact ⟨_, h⟩) (by omega) m_MO_fromEnd ml_MO_457 im_MO_fromEnd se_MO_fromEnd c_MO h80.2.2 (Nat.le_of_ble_eq_true rfl) d_MO_goEither_69 rfl ?_
  intro v G7 hq
  rcases hq with ⟨hv, hfk, hlk, hsk, hq8⟩ | ⟨c29, hv, hfk, hlk, hsk, hq10, hq11, hq12⟩
  · cases hv
    have h80 := hfk.get h80 (by decide)
    have h94 := hfk.get h94 (by decide)
    have h95 := hfk.get h95 (by decide)
    have h96 := hfk.get h96 (by decide)
    have h97 := hfk.get h97 (by decide)
    have h98 := hfk.get h98 (by decide)
    have h99 := hfk.get h99 (by decide)
    have h100 := hfk.get h100 (by decide)
    have h101 := hfk.get h101 (by decide)
    have h90 := hfk.get h90 (by decide)
    have h89 := hfk.get h89 (by decide)
    have h91 := hfk.get h91 (by decide)
    have h92 := hfk.get h92 (by decide)
    have h118 := hfk.get h118 (by decide)
    have h119 := hfk.get h119 (by decide)
    have h120 := hfk.get h120 (by decide)
    have h121 := hfk.get h121 (by decide)
    have h122 := hfk.get h122 (by decide)
    have h123 := hfk.get h123 (by decide)
    have h124 := hfk.get h124 (by decide)
    have h117 := hfk.get h117 (by decide)
    have h125 := hfk.get h125 (by decide)
    have h133 := hfk.get h133 (by decide)
    have h128 := hfk.get h128 (by decide)
    have h129 := hfk.get h129 (by decide)
    have h130 := hfk.get h130 (by decide)
    have h131 := hfk.get h131 (by decide)
    have h132 := hfk.get h132 (by decide)
    have hfr := hfr.tr hfk (by decide)
    have hlen := hlk.trans hlen
    have hsl := hsk.trans hsl
    change ab_W _ _ _ G7 72 [some (vR 80), some (vz w), none] [vz (-1)] _
    refine ab_istore_n d_MO_goEither_72 (Nat.le_of_ble_eq_true rfl) (Nat.le_of_ble_eq_true rfl) rfl ?_
    change ab_W _ _ _ G7 73 [some (vR 80), some (vz w), some (vz (-1))] [] _
    refine ab_iload_n d_MO_goEither_73 rfl ?_
    refine zz_if_ge (tgt := 88) d_MO_goEither_74 (by decide) (by decide) (fun c13 => absurd c13 (by decide)) (fun c13 => ?_)
    refine ab_aload_n d_MO_goEither_77 rfl ?_
    refine ab_aload_n d_MO_goEither_78 rfl ?_
    refine ab_getf (fs := mof m_thrown m_taped m_length m_out m_wide m_gathered m_sets m_ranges m_nodes m_at m_flags m_fault m_place m_numbered m_depth m_value m_isNot m_least0 m_most0 m_slot m_work m_got m_rowMany m_charAt m_charWide m_trail m_isMatch m_matchGroups m_allFrom m_allBefore m_founds m_pieces m_writtenMany m_templateWide m_tooMuch) f_MO_167 d_MO_goEither_79 h80.2.2 rfl ?_
    refine ab_iload_n d_MO_goEither_82 rfl ?_
    refine zz_iald d_MO_goEither_83 h131 (by omega) ?_
    have hq14 := gwg w (by omega) (by omega)
    refine ab_callV (d' := d - 1) (as := [vz (WG w)]) (st := []) (r := _) (z_MO_done (o := o) (m_thrown := m_thrown) (m_taped := m_taped) (m_length := m_length) (m_out := m_out) (m_wide := m_wide) (m_gathered := m_gathered) (m_sets := m_sets) (m_ranges := m_ranges) (m_nodes := m_nodes) (m_at := m_at) (m_flags := m_flags) (m_fault := m_fault) (m_place := m_place) (m_numbered := m_numbered) (m_depth := m_depth) (m_value := m_value) (m_isNot := m_isNot) (m_least0 := m_least0) (m_most0 := m_most0) (m_slot := m_slot) (m_work := m_work) (m_got := m_got) (m_rowMany := m_rowMany) (m_charAt := m_charAt) (m_charWide := m_charWide) (m_trail := m_trail) (m_isMatch := m_isMatch) (m_matchGroups := m_matchGroups) (m_allFrom := m_allFrom) (m_allBefore := m_allBefore) (m_founds := m_founds) (m_pieces := m_pieces) (m_writtenMany := m_writtenMany) (m_templateWide := m_templateWide) (m_tooMuch := m_tooMuch) (x := (WG w)) h80 (by omega)) (fun oc G2 h => by rcases h with ⟨h, _⟩ <;> exact ⟨_, h⟩) (by omega) m_MO_done ml_MO_461 im_MO_done se_MO_done c_MO h80.2.2 (Nat.le_of_ble_eq_true rfl) d_MO_goEither_84 rfl ?_
    intro v G15 hq
    rcases hq with ⟨hv, hfk, hlk, hsk, hN80⟩
    cases hv
    have h94 := hfk.get h94 (by decide)
    have h95 := hfk.get h95 (by decide)
    have h96 := hfk.get h96 (by decide)
    have h97 := hfk.get h97 (by decide)
    have h98 := hfk.get h98 (by decide)
    have h99 := hfk.get h99 (by decide)
    have h100 := hfk.get h100 (by decide)
    have h101 := hfk.get h101 (by decide)
    have h90 := hfk.get h90 (by decide)
    have h89 := hfk.get h89 (by decide)
    have h91 := hfk.get h91 (by decide)
    have h92 := hfk.get h92 (by decide)
    have h118 := hfk.get h118 (by decide)
    have h119 := hfk.get h119 (by decide)
    have h120 := hfk.get h120 (by decide)
    have h121 := hfk.get h121 (by decide)
    have h122 := hfk.get h122 (by decide)
    have h123 := hfk.get h123 (by decide)
    have h124 := hfk.get h124 (by decide)
    have h117 := hfk.get h117 (by decide)
    have h125 := hfk.get h125 (by decide)
    have h133 := hfk.get h133 (by decide)
    have h128 := hfk.get h128 (by decide)
    have h129 := hfk.get h129 (by decide)
    have h130 := hfk.get h130 (by decide)
    have h131 := hfk.get h131 (by decide)
    have h132 := hfk.get h132 (by decide)
    have hfr := hfr.tr hfk (by decide)
    have hlen := hlk.trans hlen
    have hsl := hsk.trans hsl
    have h80 := hN80
    change ab_W _ _ _ G15 87 [some (vR 80), some (vz w), some (vz (-1))] [] _
    refine ab_vret rfl d_MO_goEither_87 ?_
    rw [hQ]; exact (Or.inl ⟨_, _, _, _, _, _, rfl, hfr, hlen, hsl, h80, h128, h129, h130, h131, h132, (by first | exact gwp | exact rgs_w gwp (by omega)), (by first | exact gwd | exact rgs_w gwd (by omega)), (by first | exact gwt | exact rgs_w gwt (by omega)), (by first | exact gwg | exact rgs_w gwg (by omega)), (by first | exact gws | exact rgs_w gws (by omega)), (by exact fun j_ a_ => ⟨rfl, rfl, rfl, rfl, rfl⟩), (by first | rfl | (rw [zu_self]; done) | omega), (by omega)⟩)
  · cases hv
    have h80 := hfk.get h80 (by decide)
    have h94 := hfk.get h94 (by decide)
    have h95 := hfk.get h95 (by decide)
    have h96 := hfk.get h96 (by decide)
    have h97 := hfk.get h97 (by decide)
    have h98 := hfk.get h98 (by decide)
    have h99 := hfk.get h99 (by decide)
    have h100 := hfk.get h100 (by decide)
    have h101 := hfk.get h101 (by decide)
    have h90 := hfk.get h90 (by decide)
    have h89 := hfk.get h89 (by decide)
    have h91 := hfk.get h91 (by decide)
    have h92 := hfk.get h92 (by decide)
    have h118 := hfk.get h118 (by decide)
    have h119 := hfk.get h119 (by decide)
    have h120 := hfk.get h120 (by decide)
    have h121 := hfk.get h121 (by decide)
    have h122 := hfk.get h122 (by decide)
    have h123 := hfk.get h123 (by decide)
    have h124 := hfk.get h124 (by decide)
    have h117 := hfk.get h117 (by decide)
    have h125 := hfk.get h125 (by decide)
    have h133 := hfk.get h133 (by decide)
    have h128 := hfk.get h128 (by decide)
    have h129 := hfk.get h129 (by decide)
    have h130 := hfk.get h130 (by decide)
    have h131 := hfk.get h131 (by decide)
    have h132 := hfk.get h132 (by decide)
    have hfr := hfr.tr hfk (by decide)
    have hlen := hlk.trans hlen
    have hsl := hsk.trans hsl
    change ab_W _ _ _ G7 72 [some (vR 80), some (vz w), none] [vz c29] _
    refine ab_istore_n d_MO_goEither_72 (Nat.le_of_ble_eq_true rfl) (Nat.le_of_ble_eq_true rfl) rfl ?_
    change ab_W _ _ _ G7 73 [some (vR 80), some (vz w), some (vz c29)] [] _
    refine ab_iload_n d_MO_goEither_73 rfl ?_
    refine zz_if_ge (tgt := 88) d_MO_goEither_74 (by decide) (by omega) (fun c16 => ?_) (fun c16 => absurd c16 (by omega))
    refine ab_aload_n d_MO_goEither_88 rfl ?_
    refine ab_getf (fs := mof m_thrown m_taped m_length m_out m_wide m_gathered m_sets m_ranges m_nodes m_at m_flags m_fault m_place m_numbered m_depth m_value m_isNot m_least0 m_most0 m_slot m_work m_got m_rowMany m_charAt m_charWide m_trail m_isMatch m_matchGroups m_allFrom m_allBefore m_founds m_pieces m_writtenMany m_templateWide m_tooMuch) f_MO_170 d_MO_goEither_89 h80.2.2 rfl ?_
    refine ab_iload_n d_MO_goEither_92 rfl ?_
    refine ab_dup2 d_MO_goEither_93 rfl rfl ?_
    refine zz_iald d_MO_goEither_94 h132 (by omega) ?_
    have hq17 := gws w (by omega) (by omega)
    refine zz_iconst d_MO_goEither_95 ?_
    refine zz_iadd d_MO_goEither_96 ?_
    refine zz_iast d_MO_goEither_97 h132 (by omega) (h132.2.1 (by decide)) ?_
    obtain ⟨G18, eG18⟩ : ∃ z : ab_G, z = List.set G7 132 (za 300 (zu WS w ((WS w) + 1))) := ⟨_, rfl⟩
    have h80 := h80.keep h132 eG18 (by decide)
    have h94 := h94.keep h132 eG18 (by decide)
    have h95 := h95.keep h132 eG18 (by decide)
    have h96 := h96.keep h132 eG18 (by decide)
    have h97 := h97.keep h132 eG18 (by decide)
    have h98 := h98.keep h132 eG18 (by decide)
    have h99 := h99.keep h132 eG18 (by decide)
    have h100 := h100.keep h132 eG18 (by decide)
    have h101 := h101.keep h132 eG18 (by decide)
    have h90 := h90.keep h132 eG18 (by decide)
    have h89 := h89.keep h132 eG18 (by decide)
    have h91 := h91.keep h132 eG18 (by decide)
    have h92 := h92.keep h132 eG18 (by decide)
    have h118 := h118.keep h132 eG18 (by decide)
    have h119 := h119.keep h132 eG18 (by decide)
    have h120 := h120.keep h132 eG18 (by decide)
    have h121 := h121.keep h132 eG18 (by decide)
    have h122 := h122.keep h132 eG18 (by decide)
    have h123 := h123.keep h132 eG18 (by decide)
    have h124 := h124.keep h132 eG18 (by decide)
    have h117 := h117.keep h132 eG18 (by decide)
    have h125 := h125.keep h132 eG18 (by decide)
    have h133 := h133.keep h132 eG18 (by decide)
    have h128 := h128.keep h132 eG18 (by decide)
    have h129 := h129.keep h132 eG18 (by decide)
    have h130 := h130.keep h132 eG18 (by decide)
    have h131 := h131.keep h132 eG18 (by decide)
    have hlen := (z_len eG18).trans hlen
    have hsl := (z_sl h132 eG18 rfl).trans hsl
    have hfr := hfr.wr h132 eG18 (by decide)
    have h132 := h132.kept eG18
    change ab_W _ _ _ (List.set G7 132 (za 300 (zu WS w ((WS w) + 1)))) 98 [some (vR 80), some (vz w), some (vz c29)] [] _
    rw [← eG18]
    refine ab_aload_n d_MO_goEither_98 rfl ?_
    refine ab_iload_n d_MO_goEither_99 rfl ?_
    refine ab_aload_n d_MO_goEither_100 rfl ?_
    refine ab_getf (fs := mof m_thrown m_taped m_length m_out m_wide m_gathered m_sets m_ranges m_nodes m_at m_flags m_fault m_place m_numbered m_depth m_value m_isNot m_least0 m_most0 m_slot m_work m_got m_rowMany m_charAt m_charWide m_trail m_isMatch m_matchGroups m_allFrom m_allBefore m_founds m_pieces m_writtenMany m_templateWide m_tooMuch) f_MO_161 d_MO_goEither_101 h80.2.2 rfl ?_
    refine ab_iload_n d_MO_goEither_104 rfl ?_
    refine zz_iald d_MO_goEither_105 h129 (by omega) ?_
    have hq19 := gwd w (by omega) (by omega)
    refine ab_aload_n d_MO_goEither_106 rfl ?_
    refine ab_getf (fs := mof m_thrown m_taped m_length m_out m_wide m_gathered m_sets m_ranges m_nodes m_at m_flags m_fault m_place m_numbered m_depth m_value m_isNot m_least0 m_most0 m_slot m_work m_got m_rowMany m_charAt m_charWide m_trail m_isMatch m_matchGroups m_allFrom m_allBefore m_founds m_pieces m_writtenMany m_templateWide m_tooMuch) f_MO_164 d_MO_goEither_107 h80.2.2 rfl ?_
    refine ab_iload_n d_MO_goEither_110 rfl ?_
    refine zz_iald d_MO_goEither_111 h130 (by omega) ?_
    have hq20 := gwt w (by omega) (by omega)
    refine ab_callV (d' := d - 1) (as := [vz c29, vz (WD w), vz (WT w)]) (st := []) (r := _) (z_MO_open (o := o) (m_thrown := m_thrown) (m_taped := m_taped) (m_length := m_length) (m_out := m_out) (m_wide := m_wide) (m_gathered := m_gathered) (m_sets := m_sets) (m_ranges := m_ranges) (m_nodes := m_nodes) (m_at := m_at) (m_flags := m_flags) (m_fault := m_fault) (m_place := m_place) (m_numbered := m_numbered) (m_depth := m_depth) (m_value := m_value) (m_isNot := m_isNot) (m_least0 := m_least0) (m_most0 := m_most0) (m_slot := m_slot) (m_work := m_work) (m_got := m_got) (m_rowMany := m_rowMany) (m_charAt := m_charAt) (m_charWide := m_charWide) (m_trail := m_trail) (m_isMatch := m_isMatch) (m_matchGroups := m_matchGroups) (m_allFrom := m_allFrom) (m_allBefore := m_allBefore) (m_founds := m_founds) (m_pieces := m_pieces) (m_writtenMany := m_writtenMany) (m_templateWide := m_templateWide) (m_tooMuch := m_tooMuch) (WP := WP) (WD := WD) (WT := WT) (WG := WG) (WS := (zu WS w ((WS w) + 1))) (to := (WT w)) (x := c29) (y := (WD w)) h80 h128 h129 h130 h131 h132 (by omega) (by omega)) (fun oc G2 h => by rcases h with ⟨h, _⟩ <;> exact ⟨_, h⟩) (by omega) m_MO_open ml_MO_464 im_MO_open se_MO_open c_MO h80.2.2 (Nat.le_of_ble_eq_true rfl) d_MO_goEither_112 rfl ?_
    intro v G21 hq
    rcases hq with ⟨hv, hfk, hlk, hsk, hN80, hN128, hN129, hN130, hN131, hN132⟩
    cases hv
    have h94 := hfk.get h94 (by decide)
    have h95 := hfk.get h95 (by decide)
    have h96 := hfk.get h96 (by decide)
    have h97 := hfk.get h97 (by decide)
    have h98 := hfk.get h98 (by decide)
    have h99 := hfk.get h99 (by decide)
    have h100 := hfk.get h100 (by decide)
    have h101 := hfk.get h101 (by decide)
    have h90 := hfk.get h90 (by decide)
    have h89 := hfk.get h89 (by decide)
    have h91 := hfk.get h91 (by decide)
    have h92 := hfk.get h92 (by decide)
    have h118 := hfk.get h118 (by decide)
    have h119 := hfk.get h119 (by decide)
    have h120 := hfk.get h120 (by decide)
    have h121 := hfk.get h121 (by decide)
    have h122 := hfk.get h122 (by decide)
    have h123 := hfk.get h123 (by decide)
    have h124 := hfk.get h124 (by decide)
    have h117 := hfk.get h117 (by decide)
    have h125 := hfk.get h125 (by decide)
    have h133 := hfk.get h133 (by decide)
    have hfr := hfr.tr hfk (by decide)
    have hlen := hlk.trans hlen
    have hsl := hsk.trans hsl
    have h80 := hN80
    have h128 := hN128
    have h129 := hN129
    have h130 := hN130
    have h131 := hN131
    have h132 := hN132
    change ab_W _ _ _ G21 115 [some (vR 80), some (vz w), some (vz c29)] [] _
    refine ab_vret rfl d_MO_goEither_115 ?_
    rw [hQ]; exact (Or.inr ⟨_, _, (WG w), _, _, _, _, _, rfl, hfr, hlen, hsl, h80, h128, h129, h130, h131, h132, (by first | exact (rgs_zu gwp (by omega)) | exact rgs_w (rgs_zu gwp (by omega)) (by omega)), (by first | exact (rgs_zu gwd (by omega)) | exact rgs_w (rgs_zu gwd (by omega)) (by omega)), (by first | exact (rgs_zu gwt (by omega)) | exact rgs_w (rgs_zu gwt (by omega)) (by omega)), (by first | exact (rgs_zu gwg (by omega)) | exact rgs_w (rgs_zu gwg (by omega)) (by omega)), (by first | exact (rgs_zu (rgs_zu gws (by omega)) (by omega)) | exact rgs_w (rgs_zu (rgs_zu gws (by omega)) (by omega)) (by omega)), (by exact fun j_ a_ => ⟨by rw [zu_ne (by omega)], by rw [zu_ne (by omega)], by rw [zu_ne (by omega)], by rw [zu_ne (by omega)], by rw [zu_ne (by omega), zu_ne (by omega)]⟩), (by rw [zu_self]), (by rw [zu_self]), (by rw [zu_self]), (by rw [zu_self]), (by rw [zu_self]), (by rw [zu_ne (show w ≠ m_work by omega)]), (by rw [zu_ne (show w ≠ m_work by omega)]), (by rw [zu_ne (show w ≠ m_work by omega)]), (by rw [zu_ne (show w ≠ m_work by omega)]), (by rw [zu_ne (show w ≠ m_work by omega), zu_self] <;> omega), (by omega), (by first | rfl | (rw [zu_self]; done) | omega), (by first | rfl | (rw [zu_self]; done) | omega), (by omega), (by exact hq11), (by exact hq12)⟩)
set_option maxRecDepth 100000 in
set_option maxHeartbeats 4000000 in
theorem z_MO_goEither_1 {X : ab_X} {d : Nat} {o : Nat → Nat} {G : ab_G} {m_thrown : Int} {m_taped : Int} {m_length : Int} {m_out : Int} {m_wide : Int} {m_gathered : Int} {m_sets : Int} {m_ranges : Int} {m_nodes : Int} {m_at : Int} {m_flags : Int} {m_fault : Int} {m_place : Int} {m_numbered : Int} {m_depth : Int} {m_value : Int} {m_isNot : Int} {m_least0 : Int} {m_most0 : Int} {m_slot : Int} {m_work : Int} {m_got : Int} {m_rowMany : Int} {m_charAt : Int} {m_charWide : Int} {m_trail : Int} {m_isMatch : Int} {m_matchGroups : Int} {m_allFrom : Int} {m_allBefore : Int} {m_founds : Int} {m_pieces : Int} {m_writtenMany : Int} {m_templateWide : Int} {m_tooMuch : Int} {T : Int → Int} {N : Int → Int} {W : Int → Int} {CA : Int → Int} {CM : Int → Int} {CL : Int → Int} {CH : Int → Int} {SN : Int → Int} {CC : Int → Int} {RO : Int → Int} {WP : Int → Int} {WD : Int → Int} {WT : Int → Int} {WG : Int → Int} {WS : Int → Int} {K : Int → Int} {O : Int → Int} {Fi : Int → Int} {Be : Int → Int} {Le : Int → Int} {Mo : Int → Int} {Z : Int → Int} {LZ : Int → Int} {SM : Int → Int} {SA : Int → Int} {RL : Int → Int} {RH : Int → Int} {w : Int} {ns : Int} {pa : Int → Int} {po : Int → Int} {MN : Int → Int} {dl : Int → Int} {st : Int → Int} {ht : Int → Int} {hh : Int → Int} {PS : Int → Int → Int} {T_ : Int} {QF : Int → Int} {QL : Int → Int} {AF : Int → Int} {AL : Int → Int} {SD : Int → Int} {nd : Int} (h80 : cc o G 80 280 (ab_ob 12 (mof m_thrown m_taped m_length m_out m_wide m_gathered m_sets m_ranges m_nodes m_at m_flags m_fault m_place m_numbered m_depth m_value m_isNot m_least0 m_most0 m_slot m_work m_got m_rowMany m_charAt m_charWide m_trail m_isMatch m_matchGroups m_allFrom m_allBefore m_founds m_pieces m_writtenMany m_templateWide m_tooMuch))) (h94 : cc o G 94 294 (za 4200 K)) (h95 : cc o G 95 295 (za 4200 O)) (h96 : cc o G 96 296 (za 4200 Fi)) (h97 : cc o G 97 297 (za 4200 Be)) (h98 : cc o G 98 298 (za 4200 Le)) (h99 : cc o G 99 299 (za 4200 Mo)) (h100 : cc o G 100 300 (zl 4200 Z)) (h101 : cc o G 101 301 (zb 4200 LZ)) (h90 : cc o G 90 290 (za 2100 SM)) (h89 : cc o G 89 289 (za 2100 SA)) (h91 : cc o G 91 291 (za 24000 RL)) (h92 : cc o G 92 292 (za 24000 RH)) (h118 : cc o G 118 318 (za 75000 T)) (h119 : cc o G 119 319 (za 75000 N)) (h120 : cc o G 120 320 (za 75000 W)) (h121 : cc o G 121 321 (za 75000 CA)) (h122 : cc o G 122 322 (za 75000 CM)) (h123 : cc o G 123 323 (za 3600 CL)) (h124 : cc o G 124 324 (za 3600 CH)) (h117 : cc o G 117 317 (za 6 SN)) (h125 : cc o G 125 325 (za 6 CC)) (h133 : cc o G 133 333 (za 40000 RO)) (h128 : cc o G 128 328 (za 300 WP)) (h129 : cc o G 129 329 (za 300 WD)) (h130 : cc o G 130 330 (za 300 WT)) (h131 : cc o G 131 331 (za 300 WG)) (h132 : cc o G 132 332 (za 300 WS)) (n18 : ab_n0 = 18) (csl : 0 ≤ m_slot ∧ m_slot ≤ 5) (jrl : rgs RL 24000 0 1114111) (jrh : rgs RH 24000 0 1114111) (jk : rgs K 4200 0 7) (jo : rgs O 4200 (-1) 3000) (jfi : rgs Fi 4200 (-1) 4199) (jbe : rgs Be 4200 (-1) 4199) (jle : rgs Le 4200 0 1000) (jmo : rgs Mo 4200 (-1) 1000) (jz : rgs Z 4200 (-1) 1000000000000) (jlz : rgs LZ 4200 0 1) (jsm : rgs SM 2100 0 24000) (jsa : rgs SA 2100 0 24000) (gt : rgs T 75000 0 6) (gn : rgs N 75000 (-1) 12499) (gw : rgs W 75000 (-1) 12499) (gca : rgs CA 75000 0 3600) (gcm : rgs CM 75000 0 24000) (gcl : rgs CL 3600 0 1114111) (gch : rgs CH 3600 0 1114111) (gsn : rgs SN 6 0 12500) (gcc : rgs CC 6 0 600) (gro : rgs RO 40000 0 12499) (gwp : rgs WP 300 0 4199) (gwd : rgs WD 300 0 31) (gwt : rgs WT 300 0 39968) (gwg : rgs WG 300 0 39968) (gws : rgs WS 300 0 4300) (jka : tka T W CA CM SM SA RL RH CL CH (12500 * m_slot) (SN m_slot) m_slot (CC m_slot) ns) (jss : sas SA SM ns) (cst : 0 ≤ m_rowMany ∧ m_rowMany ≤ 1250 ∧ 0 ≤ (SN m_slot) ∧ (SN m_slot) ≤ 12500 ∧ 0 ≤ ns ∧ ns ≤ 2100) (cw : 0 ≤ w ∧ m_work = w + 1 ∧ w < 299) (cx : 0 ≤ WP w ∧ WP w < nd ∧ 0 ≤ nd ∧ nd ≤ 4200 ∧ 0 ≤ WD w ∧ WD w ≤ 31 ∧ 0 ≤ WT w ∧ WT w + 32 ≤ 32 * m_rowMany) (jG : rtG K O Fi Be Le Mo Z SM QF QL AF AL SD nd ns 0 pa po MN dl st ht hh PS T_) (ck : K (WP w) = 5) (jf : rtF nd pa po MN (WP w) (Fi (WP w))) (cws : 0 ≤ WS w ∧ WS w ≤ 4200) (cs0 : WS w = 1) (cgo : 0 ≤ m_got ∧ m_got + 32 ≤ 32 * m_rowMany) (hd : 4 ≤ d) : ab_F X d y_MO_goEither (.code y_MO_goEither b_MO_goEither 3 none) [vR 80, vz w] G (fun oc G2 => (∃ g2 : Int, ∃ WP2 : Int → Int, ∃ WD2 : Int → Int, ∃ WT2 : Int → Int, ∃ WG2 : Int → Int, ∃ WS2 : Int → Int, oc = .returned none ∧ fx o o [280, 328, 329, 330, 331, 332] G G2 ∧ G2.length = G.length ∧ ab_slots G2 = ab_slots G ∧ cc o G2 80 280 (ab_ob 12 (mof m_thrown m_taped m_length m_out m_wide m_gathered m_sets m_ranges m_nodes m_at m_flags m_fault m_place m_numbered m_depth m_value m_isNot m_least0 m_most0 m_slot (m_work - 1) g2 m_rowMany m_charAt m_charWide m_trail m_isMatch m_matchGroups m_allFrom m_allBefore m_founds m_pieces m_writtenMany m_templateWide m_tooMuch)) ∧ cc o G2 128 328 (za 300 WP2) ∧ cc o G2 129 329 (za 300 WD2) ∧ cc o G2 130 330 (za 300 WT2) ∧ cc o G2 131 331 (za 300 WG2) ∧ cc o G2 132 332 (za 300 WS2) ∧ (rgs WP2 300 0 4199) ∧ (rgs WD2 300 0 31) ∧ (rgs WT2 300 0 39968) ∧ (rgs WG2 300 0 39968) ∧ (rgs WS2 300 0 4300) ∧ (fsm WP WD WT WG WS WP2 WD2 WT2 WG2 WS2 w) ∧ (g2 = m_got) ∧ (MN (WP w) ≤ WS w ∧ 0 ≤ MN (WP w))) ∨ (∃ c2 : Int, ∃ t2 : Int, ∃ u2 : Int, ∃ WP2 : Int → Int, ∃ WD2 : Int → Int, ∃ WT2 : Int → Int, ∃ WG2 : Int → Int, ∃ WS2 : Int → Int, oc = .returned none ∧ fx o o [280, 328, 329, 330, 331, 332] G G2 ∧ G2.length = G.length ∧ ab_slots G2 = ab_slots G ∧ cc o G2 80 280 (ab_ob 12 (mof m_thrown m_taped m_length m_out m_wide m_gathered m_sets m_ranges m_nodes m_at m_flags m_fault m_place m_numbered m_depth m_value m_isNot m_least0 m_most0 m_slot (m_work + 1) m_got m_rowMany m_charAt m_charWide m_trail m_isMatch m_matchGroups m_allFrom m_allBefore m_founds m_pieces m_writtenMany m_templateWide m_tooMuch)) ∧ cc o G2 128 328 (za 300 WP2) ∧ cc o G2 129 329 (za 300 WD2) ∧ cc o G2 130 330 (za 300 WT2) ∧ cc o G2 131 331 (za 300 WG2) ∧ cc o G2 132 332 (za 300 WS2) ∧ (rgs WP2 300 0 4199) ∧ (rgs WD2 300 0 31) ∧ (rgs WT2 300 0 39968) ∧ (rgs WG2 300 0 39968) ∧ (rgs WS2 300 0 4300) ∧ (fsm WP WD WT WG WS WP2 WD2 WT2 WG2 WS2 w) ∧ (WP2 m_work = c2) ∧ (WD2 m_work = WD w) ∧ (WT2 m_work = t2) ∧ (WG2 m_work = t2) ∧ (WS2 m_work = 0) ∧ (WP2 w = WP w) ∧ (WD2 w = WD w) ∧ (WT2 w = WT w) ∧ (WG2 w = u2) ∧ (WS2 w = (WS w + 1)) ∧ (0 ≤ c2 ∧ c2 < nd) ∧ (t2 = WT w) ∧ (u2 = m_got) ∧ (WS w < MN (WP w) ∧ MN (WP w) ≤ 4200) ∧ (pa c2 = WP w ∧ po c2 = MN (WP w) - 1 - WS w) ∧ (nthI Fi Be (WP w) (MN (WP w) - 1 - WS w) c2))) := by
  refine ab_F_of (by decide +kernel) (Nat.le_of_ble_eq_true rfl) ?_
  obtain ⟨Q, hQ⟩ : ∃ z : Outcome → ab_G → Prop, z = (fun oc G2 => (∃ g2 : Int, ∃ WP2 : Int → Int, ∃ WD2 : Int → Int, ∃ WT2 : Int → Int, ∃ WG2 : Int → Int, ∃ WS2 : Int → Int, oc = .returned none ∧ fx o o [280, 328, 329, 330, 331, 332] G G2 ∧ G2.length = G.length ∧ ab_slots G2 = ab_slots G ∧ cc o G2 80 280 (ab_ob 12 (mof m_thrown m_taped m_length m_out m_wide m_gathered m_sets m_ranges m_nodes m_at m_flags m_fault m_place m_numbered m_depth m_value m_isNot m_least0 m_most0 m_slot (m_work - 1) g2 m_rowMany m_charAt m_charWide m_trail m_isMatch m_matchGroups m_allFrom m_allBefore m_founds m_pieces m_writtenMany m_templateWide m_tooMuch)) ∧ cc o G2 128 328 (za 300 WP2) ∧ cc o G2 129 329 (za 300 WD2) ∧ cc o G2 130 330 (za 300 WT2) ∧ cc o G2 131 331 (za 300 WG2) ∧ cc o G2 132 332 (za 300 WS2) ∧ (rgs WP2 300 0 4199) ∧ (rgs WD2 300 0 31) ∧ (rgs WT2 300 0 39968) ∧ (rgs WG2 300 0 39968) ∧ (rgs WS2 300 0 4300) ∧ (fsm WP WD WT WG WS WP2 WD2 WT2 WG2 WS2 w) ∧ (g2 = m_got) ∧ (MN (WP w) ≤ WS w ∧ 0 ≤ MN (WP w))) ∨ (∃ c2 : Int, ∃ t2 : Int, ∃ u2 : Int, ∃ WP2 : Int → Int, ∃ WD2 : Int → Int, ∃ WT2 : Int → Int, ∃ WG2 : Int → Int, ∃ WS2 : Int → Int, oc = .returned none ∧ fx o o [280, 328, 329, 330, 331, 332] G G2 ∧ G2.length = G.length ∧ ab_slots G2 = ab_slots G ∧ cc o G2 80 280 (ab_ob 12 (mof m_thrown m_taped m_length m_out m_wide m_gathered m_sets m_ranges m_nodes m_at m_flags m_fault m_place m_numbered m_depth m_value m_isNot m_least0 m_most0 m_slot (m_work + 1) m_got m_rowMany m_charAt m_charWide m_trail m_isMatch m_matchGroups m_allFrom m_allBefore m_founds m_pieces m_writtenMany m_templateWide m_tooMuch)) ∧ cc o G2 128 328 (za 300 WP2) ∧ cc o G2 129 329 (za 300 WD2) ∧ cc o G2 130 330 (za 300 WT2) ∧ cc o G2 131 331 (za 300 WG2) ∧ cc o G2 132 332 (za 300 WS2) ∧ (rgs WP2 300 0 4199) ∧ (rgs WD2 300 0 31) ∧ (rgs WT2 300 0 39968) ∧ (rgs WG2 300 0 39968) ∧ (rgs WS2 300 0 4300) ∧ (fsm WP WD WT WG WS WP2 WD2 WT2 WG2 WS2 w) ∧ (WP2 m_work = c2) ∧ (WD2 m_work = WD w) ∧ (WT2 m_work = t2) ∧ (WG2 m_work = t2) ∧ (WS2 m_work = 0) ∧ (WP2 w = WP w) ∧ (WD2 w = WD w) ∧ (WT2 w = WT w) ∧ (WG2 w = u2) ∧ (WS2 w = (WS w + 1)) ∧ (0 ≤ c2 ∧ c2 < nd) ∧ (t2 = WT w) ∧ (u2 = m_got) ∧ (WS w < MN (WP w) ∧ MN (WP w) ≤ 4200) ∧ (pa c2 = WP w ∧ po c2 = MN (WP w) - 1 - WS w) ∧ (nthI Fi Be (WP w) (MN (WP w) - 1 - WS w) c2))) := ⟨_, rfl⟩
  rw [← hQ]
  change ab_W X (ab_pl y_MO_goEither b_MO_goEither 3 none) d G 0 [some (vR 80), some (vz w), none] [] Q
  have hfr : fx o o [280, 328, 329, 330, 331, 332] G G := fx.rf
  have hlen : G.length = G.length := rfl
  have hsl : ab_slots G = ab_slots G := rfl
  refine ab_aload_n d_MO_goEither_0 rfl ?_
  refine ab_getf (fs := mof m_thrown m_taped m_length m_out m_wide m_gathered m_sets m_ranges m_nodes m_at m_flags m_fault m_place m_numbered m_depth m_value m_isNot m_least0 m_most0 m_slot m_work m_got m_rowMany m_charAt m_charWide m_trail m_isMatch m_matchGroups m_allFrom m_allBefore m_founds m_pieces m_writtenMany m_templateWide m_tooMuch) f_MO_170 d_MO_goEither_1 h80.2.2 rfl ?_
  refine ab_iload_n d_MO_goEither_4 rfl ?_
  refine zz_iald d_MO_goEither_5 h132 (by omega) ?_
  have hq1 := gws w (by omega) (by omega)
  refine zz_iconst d_MO_goEither_6 ?_
  refine zz_icmp_ne (tgt := 20) d_MO_goEither_7 (by decide) (by omega) (by decide) (fun c2 => absurd c2 (by omega)) (fun c2 => ?_)
  refine ab_aload_n d_MO_goEither_10 rfl ?_
  refine ab_getf (fs := mof m_thrown m_taped m_length m_out m_wide m_gathered m_sets m_ranges m_nodes m_at m_flags m_fault m_place m_numbered m_depth m_value m_isNot m_least0 m_most0 m_slot m_work m_got m_rowMany m_charAt m_charWide m_trail m_isMatch m_matchGroups m_allFrom m_allBefore m_founds m_pieces m_writtenMany m_templateWide m_tooMuch) f_MO_167 d_MO_goEither_11 h80.2.2 rfl ?_
  refine ab_iload_n d_MO_goEither_14 rfl ?_
  refine ab_aload_n d_MO_goEither_15 rfl ?_
  refine ab_getf (fs := mof m_thrown m_taped m_length m_out m_wide m_gathered m_sets m_ranges m_nodes m_at m_flags m_fault m_place m_numbered m_depth m_value m_isNot m_least0 m_most0 m_slot m_work m_got m_rowMany m_charAt m_charWide m_trail m_isMatch m_matchGroups m_allFrom m_allBefore m_founds m_pieces m_writtenMany m_templateWide m_tooMuch) f_MO_448 d_MO_goEither_16 h80.2.2 rfl ?_
  refine zz_iast d_MO_goEither_19 h131 (by omega) (h131.2.1 (by decide)) ?_
  obtain ⟨G3, eG3⟩ : ∃ z : ab_G, z = List.set G 131 (za 300 (zu WG w m_got)) := ⟨_, rfl⟩
  have h80 := h80.keep h131 eG3 (by decide)
  have h94 := h94.keep h131 eG3 (by decide)
  have h95 := h95.keep h131 eG3 (by decide)
  have h96 := h96.keep h131 eG3 (by decide)
  have h97 := h97.keep h131 eG3 (by decide)
  have h98 := h98.keep h131 eG3 (by decide)
  have h99 := h99.keep h131 eG3 (by decide)
  have h100 := h100.keep h131 eG3 (by decide)
  have h101 := h101.keep h131 eG3 (by decide)
  have h90 := h90.keep h131 eG3 (by decide)
  have h89 := h89.keep h131 eG3 (by decide)
  have h91 := h91.keep h131 eG3 (by decide)
  have h92 := h92.keep h131 eG3 (by decide)
  have h118 := h118.keep h131 eG3 (by decide)
  have h119 := h119.keep h131 eG3 (by decide)
  have h120 := h120.keep h131 eG3 (by decide)
  have h121 := h121.keep h131 eG3 (by decide)
  have h122 := h122.keep h131 eG3 (by decide)
  have h123 := h123.keep h131 eG3 (by decide)
  have h124 := h124.keep h131 eG3 (by decide)
  have h117 := h117.keep h131 eG3 (by decide)
  have h125 := h125.keep h131 eG3 (by decide)
  have h133 := h133.keep h131 eG3 (by decide)
  have h128 := h128.keep h131 eG3 (by decide)
  have h129 := h129.keep h131 eG3 (by decide)
  have h130 := h130.keep h131 eG3 (by decide)
  have h132 := h132.keep h131 eG3 (by decide)
  have hlen := (z_len eG3).trans hlen
  have hsl := (z_sl h131 eG3 rfl).trans hsl
  have hfr := hfr.wr h131 eG3 (by decide)
  have h131 := h131.kept eG3
  change ab_W _ _ _ (List.set G 131 (za 300 (zu WG w m_got))) 20 [some (vR 80), some (vz w), none] [] _
  rw [← eG3]
  refine ab_aload_n d_MO_goEither_20 rfl ?_
  refine ab_getf (fs := mof m_thrown m_taped m_length m_out m_wide m_gathered m_sets m_ranges m_nodes m_at m_flags m_fault m_place m_numbered m_depth m_value m_isNot m_least0 m_most0 m_slot m_work m_got m_rowMany m_charAt m_charWide m_trail m_isMatch m_matchGroups m_allFrom m_allBefore m_founds m_pieces m_writtenMany m_templateWide m_tooMuch) f_MO_170 d_MO_goEither_21 h80.2.2 rfl ?_
  refine ab_iload_n d_MO_goEither_24 rfl ?_
  refine zz_iald d_MO_goEither_25 h132 (by omega) ?_
  have hq4 := gws w (by omega) (by omega)
  refine zz_iconst d_MO_goEither_26 ?_
  refine zz_icmp_le (tgt := 56) d_MO_goEither_27 (by decide) (by omega) (by decide) (fun c5 => ?_) (fun c5 => absurd c5 (by omega))
  refine ab_aload_n d_MO_goEither_56 rfl ?_
  refine ab_aload_n d_MO_goEither_57 rfl ?_
  refine ab_getf (fs := mof m_thrown m_taped m_length m_out m_wide m_gathered m_sets m_ranges m_nodes m_at m_flags m_fault m_place m_numbered m_depth m_value m_isNot m_least0 m_most0 m_slot m_work m_got m_rowMany m_charAt m_charWide m_trail m_isMatch m_matchGroups m_allFrom m_allBefore m_founds m_pieces m_writtenMany m_templateWide m_tooMuch) f_MO_158 d_MO_goEither_58 h80.2.2 rfl ?_
  refine ab_iload_n d_MO_goEither_61 rfl ?_
  refine zz_iald d_MO_goEither_62 h128 (by omega) ?_
  have hq6 := gwp w (by omega) (by omega)
  refine ab_aload_n d_MO_goEither_63 rfl ?_
  refine ab_getf (fs := mof m_thrown m_taped m_length m_out m_wide m_gathered m_sets m_ranges m_nodes m_at m_flags m_fault m_place m_numbered m_depth m_value m_isNot m_least0 m_most0 m_slot m_work m_got m_rowMany m_charAt m_charWide m_trail m_isMatch m_matchGroups m_allFrom m_allBefore m_founds m_pieces m_writtenMany m_templateWide m_tooMuch) f_MO_170 d_MO_goEither_64 h80.2.2 rfl ?_
  refine ab_iload_n d_MO_goEither_67 rfl ?_
  refine zz_iald d_MO_goEither_68 h132 (by omega) ?_
  have hq7 := gws w (by omega) (by omega)
  refine ab_callV (d' := d - 1) (as := [vz (WP w), vz (WS w)]) (st := []) (r := _) (z_MO_fromEnd (o := o) (m_thrown := m_thrown) (m_taped := m_taped) (m_length := m_length) (m_out := m_out) (m_wide := m_wide) (m_gathered := m_gathered) (m_sets := m_sets) (m_ranges := m_ranges) (m_nodes := m_nodes) (m_at := m_at) (m_flags := m_flags) (m_fault := m_fault) (m_place := m_place) (m_numbered := m_numbered) (m_depth := m_depth) (m_value := m_value) (m_isNot := m_isNot) (m_least0 := m_least0) (m_most0 := m_most0) (m_slot := m_slot) (m_work := m_work) (m_got := m_got) (m_rowMany := m_rowMany) (m_charAt := m_charAt) (m_charWide := m_charWide) (m_trail := m_trail) (m_isMatch := m_isMatch) (m_matchGroups := m_matchGroups) (m_allFrom := m_allFrom) (m_allBefore := m_allBefore) (m_founds := m_founds) (m_pieces := m_pieces) (m_writtenMany := m_writtenMany) (m_templateWide := m_templateWide) (m_tooMuch := m_tooMuch) (K := K) (O := O) (Fi := Fi) (Be := Be) (Le := Le) (Mo := Mo) (Z := Z) (SM := SM) (k := (WS w)) (x := (WP w)) (ns := ns) (pa := pa) (po := po) (MN := MN) (dl := dl) (st := st) (ht := ht) (hh := hh) (PS := PS) (T_ := T_) (QF := QF) (QL := QL) (AF := AF) (AL := AL) (SD := SD) (nd := nd) h80 h96 h97 jG (by omega) jfi jf (by omega) (by omega)) (fun oc G2 h => by rcases h with ⟨h, _⟩ | ⟨_, h, _⟩ <;> exact ⟨_, h⟩) (by omega) m_MO_fromEnd ml_MO_457 im_MO_fromEnd se_MO_fromEnd c_MO h80.2.2 (Nat.le_of_ble_eq_true rfl) d_MO_goEither_69 rfl ?_
  intro v G8 hq
  rcases hq with ⟨hv, hfk, hlk, hsk, hq9⟩ | ⟨c210, hv, hfk, hlk, hsk, hq11, hq12, hq13⟩
  · cases hv
    have h80 := hfk.get h80 (by decide)
    have h94 := hfk.get h94 (by decide)
    have h95 := hfk.get h95 (by decide)
    have h96 := hfk.get h96 (by decide)
    have h97 := hfk.get h97 (by decide)
    have h98 := hfk.get h98 (by decide)
    have h99 := hfk.get h99 (by decide)
    have h100 := hfk.get h100 (by decide)
    have h101 := hfk.get h101 (by decide)
    have h90 := hfk.get h90 (by decide)
    have h89 := hfk.get h89 (by decide)
    have h91 := hfk.get h91 (by decide)
    have h92 := hfk.get h92 (by decide)
    have h118 := hfk.get h118 (by decide)
    have h119 := hfk.get h119 (by decide)
    have h120 := hfk.get h120 (by decide)
    have h121 := hfk.get h121 (by decide)
    have h122 := hfk.get h122 (by decide)
    have h123 := hfk.get h123 (by decide)
    have h124 := hfk.get h124 (by decide)
    have h117 := hfk.get h117 (by decide)
    have h125 := hfk.get h125 (by decide)
    have h133 := hfk.get h133 (by decide)
    have h128 := hfk.get h128 (by decide)
    have h129 := hfk.get h129 (by decide)
    have h130 := hfk.get h130 (by decide)
    have h131 := hfk.get h131 (by decide)
    have h132 := hfk.get h132 (by decide)
    have hfr := hfr.tr hfk (by decide)
    have hlen := hlk.trans hlen
    have hsl := hsk.trans hsl
    change ab_W _ _ _ G8 72 [some (vR 80), some (vz w), none] [vz (-1)] _
    refine ab_istore_n d_MO_goEither_72 (Nat.le_of_ble_eq_true rfl) (Nat.le_of_ble_eq_true rfl) rfl ?_
    change ab_W _ _ _ G8 73 [some (vR 80), some (vz w), some (vz (-1))] [] _
    refine ab_iload_n d_MO_goEither_73 rfl ?_
    refine zz_if_ge (tgt := 88) d_MO_goEither_74 (by decide) (by decide) (fun c14 => absurd c14 (by decide)) (fun c14 => ?_)
    refine ab_aload_n d_MO_goEither_77 rfl ?_
    refine ab_aload_n d_MO_goEither_78 rfl ?_
    refine ab_getf (fs := mof m_thrown m_taped m_length m_out m_wide m_gathered m_sets m_ranges m_nodes m_at m_flags m_fault m_place m_numbered m_depth m_value m_isNot m_least0 m_most0 m_slot m_work m_got m_rowMany m_charAt m_charWide m_trail m_isMatch m_matchGroups m_allFrom m_allBefore m_founds m_pieces m_writtenMany m_templateWide m_tooMuch) f_MO_167 d_MO_goEither_79 h80.2.2 rfl ?_
    refine ab_iload_n d_MO_goEither_82 rfl ?_
    refine zz_iald d_MO_goEither_83 h131 (by omega) ?_
    refine zz_top (zu_self _ _ _) ?_
    refine ab_callV (d' := d - 1) (as := [vz m_got]) (st := []) (r := _) (z_MO_done (o := o) (m_thrown := m_thrown) (m_taped := m_taped) (m_length := m_length) (m_out := m_out) (m_wide := m_wide) (m_gathered := m_gathered) (m_sets := m_sets) (m_ranges := m_ranges) (m_nodes := m_nodes) (m_at := m_at) (m_flags := m_flags) (m_fault := m_fault) (m_place := m_place) (m_numbered := m_numbered) (m_depth := m_depth) (m_value := m_value) (m_isNot := m_isNot) (m_least0 := m_least0) (m_most0 := m_most0) (m_slot := m_slot) (m_work := m_work) (m_got := m_got) (m_rowMany := m_rowMany) (m_charAt := m_charAt) (m_charWide := m_charWide) (m_trail := m_trail) (m_isMatch := m_isMatch) (m_matchGroups := m_matchGroups) (m_allFrom := m_allFrom) (m_allBefore := m_allBefore) (m_founds := m_founds) (m_pieces := m_pieces) (m_writtenMany := m_writtenMany) (m_templateWide := m_templateWide) (m_tooMuch := m_tooMuch) (x := m_got) h80 (by omega)) (fun oc G2 h => by rcases h with ⟨h, _⟩ <;> exact ⟨_, h⟩) (by omega) m_MO_done ml_MO_461 im_MO_done se_MO_done c_MO h80.2.2 (Nat.le_of_ble_eq_true rfl) d_MO_goEither_84 rfl ?_
    intro v G15 hq
    rcases hq with ⟨hv, hfk, hlk, hsk, hN80⟩
    cases hv
    have h94 := hfk.get h94 (by decide)
    have h95 := hfk.get h95 (by decide)
    have h96 := hfk.get h96 (by decide)
    have h97 := hfk.get h97 (by decide)
    have h98 := hfk.get h98 (by decide)
    have h99 := hfk.get h99 (by decide)
    have h100 := hfk.get h100 (by decide)
    have h101 := hfk.get h101 (by decide)
    have h90 := hfk.get h90 (by decide)
    have h89 := hfk.get h89 (by decide)
    have h91 := hfk.get h91 (by decide)
    have h92 := hfk.get h92 (by decide)
    have h118 := hfk.get h118 (by decide)
    have h119 := hfk.get h119 (by decide)
    have h120 := hfk.get h120 (by decide)
    have h121 := hfk.get h121 (by decide)
    have h122 := hfk.get h122 (by decide)
    have h123 := hfk.get h123 (by decide)
    have h124 := hfk.get h124 (by decide)
    have h117 := hfk.get h117 (by decide)
    have h125 := hfk.get h125 (by decide)
    have h133 := hfk.get h133 (by decide)
    have h128 := hfk.get h128 (by decide)
    have h129 := hfk.get h129 (by decide)
    have h130 := hfk.get h130 (by decide)
    have h131 := hfk.get h131 (by decide)
    have h132 := hfk.get h132 (by decide)
    have hfr := hfr.tr hfk (by decide)
    have hlen := hlk.trans hlen
    have hsl := hsk.trans hsl
    have h80 := hN80
    change ab_W _ _ _ G15 87 [some (vR 80), some (vz w), some (vz (-1))] [] _
    refine ab_vret rfl d_MO_goEither_87 ?_
    rw [hQ]; exact (Or.inl ⟨_, _, _, _, _, _, rfl, hfr, hlen, hsl, h80, h128, h129, h130, h131, h132, (by first | exact gwp | exact rgs_w gwp (by omega)), (by first | exact gwd | exact rgs_w gwd (by omega)), (by first | exact gwt | exact rgs_w gwt (by omega)), (by first | exact (rgs_zu gwg (by omega)) | exact rgs_w (rgs_zu gwg (by omega)) (by omega)), (by first | exact gws | exact rgs_w gws (by omega)), (by exact fun j_ a_ => ⟨rfl, rfl, rfl, by rw [zu_ne (by omega)], rfl⟩), (by first | rfl | (rw [zu_self]; done) | omega), (by omega)⟩)
  · cases hv
    have h80 := hfk.get h80 (by decide)
    have h94 := hfk.get h94 (by decide)
    have h95 := hfk.get h95 (by decide)
    have h96 := hfk.get h96 (by decide)
    have h97 := hfk.get h97 (by decide)
    have h98 := hfk.get h98 (by decide)
    have h99 := hfk.get h99 (by decide)
    have h100 := hfk.get h100 (by decide)
    have h101 := hfk.get h101 (by decide)
    have h90 := hfk.get h90 (by decide)
    have h89 := hfk.get h89 (by decide)
    have h91 := hfk.get h91 (by decide)
    have h92 := hfk.get h92 (by decide)
    have h118 := hfk.get h118 (by decide)
    have h119 := hfk.get h119 (by decide)
    have h120 := hfk.get h120 (by decide)
    have h121 := hfk.get h121 (by decide)
    have h122 := hfk.get h122 (by decide)
    have h123 := hfk.get h123 (by decide)
    have h124 := hfk.get h124 (by decide)
    have h117 := hfk.get h117 (by decide)
    have h125 := hfk.get h125 (by decide)
    have h133 := hfk.get h133 (by decide)
    have h128 := hfk.get h128 (by decide)
    have h129 := hfk.get h129 (by decide)
    have h130 := hfk.get h130 (by decide)
    have h131 := hfk.get h131 (by decide)
    have h132 := hfk.get h132 (by decide)
    have hfr := hfr.tr hfk (by decide)
    have hlen := hlk.trans hlen
    have hsl := hsk.trans hsl
    change ab_W _ _ _ G8 72 [some (vR 80), some (vz w), none] [vz c210] _
    refine ab_istore_n d_MO_goEither_72 (Nat.le_of_ble_eq_true rfl) (Nat.le_of_ble_eq_true rfl) rfl ?_
    change ab_W _ _ _ G8 73 [some (vR 80), some (vz w), some (vz c210)] [] _
    refine ab_iload_n d_MO_goEither_73 rfl ?_
    refine zz_if_ge (tgt := 88) d_MO_goEither_74 (by decide) (by omega) (fun c16 => ?_) (fun c16 => absurd c16 (by omega))
    refine ab_aload_n d_MO_goEither_88 rfl ?_
    refine ab_getf (fs := mof m_thrown m_taped m_length m_out m_wide m_gathered m_sets m_ranges m_nodes m_at m_flags m_fault m_place m_numbered m_depth m_value m_isNot m_least0 m_most0 m_slot m_work m_got m_rowMany m_charAt m_charWide m_trail m_isMatch m_matchGroups m_allFrom m_allBefore m_founds m_pieces m_writtenMany m_templateWide m_tooMuch) f_MO_170 d_MO_goEither_89 h80.2.2 rfl ?_
    refine ab_iload_n d_MO_goEither_92 rfl ?_
    refine ab_dup2 d_MO_goEither_93 rfl rfl ?_
    refine zz_iald d_MO_goEither_94 h132 (by omega) ?_
    have hq17 := gws w (by omega) (by omega)
    refine zz_iconst d_MO_goEither_95 ?_
    refine zz_iadd d_MO_goEither_96 ?_
    refine zz_iast d_MO_goEither_97 h132 (by omega) (h132.2.1 (by decide)) ?_
    obtain ⟨G18, eG18⟩ : ∃ z : ab_G, z = List.set G8 132 (za 300 (zu WS w ((WS w) + 1))) := ⟨_, rfl⟩
    have h80 := h80.keep h132 eG18 (by decide)
    have h94 := h94.keep h132 eG18 (by decide)
    have h95 := h95.keep h132 eG18 (by decide)
    have h96 := h96.keep h132 eG18 (by decide)
    have h97 := h97.keep h132 eG18 (by decide)
    have h98 := h98.keep h132 eG18 (by decide)
    have h99 := h99.keep h132 eG18 (by decide)
    have h100 := h100.keep h132 eG18 (by decide)
    have h101 := h101.keep h132 eG18 (by decide)
    have h90 := h90.keep h132 eG18 (by decide)
    have h89 := h89.keep h132 eG18 (by decide)
    have h91 := h91.keep h132 eG18 (by decide)
    have h92 := h92.keep h132 eG18 (by decide)
    have h118 := h118.keep h132 eG18 (by decide)
    have h119 := h119.keep h132 eG18 (by decide)
    have h120 := h120.keep h132 eG18 (by decide)
    have h121 := h121.keep h132 eG18 (by decide)
    have h122 := h122.keep h132 eG18 (by decide)
    have h123 := h123.keep h132 eG18 (by decide)
    have h124 := h124.keep h132 eG18 (by decide)
    have h117 := h117.keep h132 eG18 (by decide)
    have h125 := h125.keep h132 eG18 (by decide)
    have h133 := h133.keep h132 eG18 (by decide)
    have h128 := h128.keep h132 eG18 (by decide)
    have h129 := h129.keep h132 eG18 (by decide)
    have h130 := h130.keep h132 eG18 (by decide)
    have h131 := h131.keep h132 eG18 (by decide)
    have hlen := (z_len eG18).trans hlen
    have hsl := (z_sl h132 eG18 rfl).trans hsl
    have hfr := hfr.wr h132 eG18 (by decide)
    have h132 := h132.kept eG18
    change ab_W _ _ _ (List.set G8 132 (za 300 (zu WS w ((WS w) + 1)))) 98 [some (vR 80), some (vz w), some (vz c210)] [] _
    rw [← eG18]
    refine ab_aload_n d_MO_goEither_98 rfl ?_
    refine ab_iload_n d_MO_goEither_99 rfl ?_
    refine ab_aload_n d_MO_goEither_100 rfl ?_
    refine ab_getf (fs := mof m_thrown m_taped m_length m_out m_wide m_gathered m_sets m_ranges m_nodes m_at m_flags m_fault m_place m_numbered m_depth m_value m_isNot m_least0 m_most0 m_slot m_work m_got m_rowMany m_charAt m_charWide m_trail m_isMatch m_matchGroups m_allFrom m_allBefore m_founds m_pieces m_writtenMany m_templateWide m_tooMuch) f_MO_161 d_MO_goEither_101 h80.2.2 rfl ?_
    refine ab_iload_n d_MO_goEither_104 rfl ?_
    refine zz_iald d_MO_goEither_105 h129 (by omega) ?_
    have hq19 := gwd w (by omega) (by omega)
    refine ab_aload_n d_MO_goEither_106 rfl ?_
    refine ab_getf (fs := mof m_thrown m_taped m_length m_out m_wide m_gathered m_sets m_ranges m_nodes m_at m_flags m_fault m_place m_numbered m_depth m_value m_isNot m_least0 m_most0 m_slot m_work m_got m_rowMany m_charAt m_charWide m_trail m_isMatch m_matchGroups m_allFrom m_allBefore m_founds m_pieces m_writtenMany m_templateWide m_tooMuch) f_MO_164 d_MO_goEither_107 h80.2.2 rfl ?_
    refine ab_iload_n d_MO_goEither_110 rfl ?_
    refine zz_iald d_MO_goEither_111 h130 (by omega) ?_
    have hq20 := gwt w (by omega) (by omega)
    refine ab_callV (d' := d - 1) (as := [vz c210, vz (WD w), vz (WT w)]) (st := []) (r := _) (z_MO_open (o := o) (m_thrown := m_thrown) (m_taped := m_taped) (m_length := m_length) (m_out := m_out) (m_wide := m_wide) (m_gathered := m_gathered) (m_sets := m_sets) (m_ranges := m_ranges) (m_nodes := m_nodes) (m_at := m_at) (m_flags := m_flags) (m_fault := m_fault) (m_place := m_place) (m_numbered := m_numbered) (m_depth := m_depth) (m_value := m_value) (m_isNot := m_isNot) (m_least0 := m_least0) (m_most0 := m_most0) (m_slot := m_slot) (m_work := m_work) (m_got := m_got) (m_rowMany := m_rowMany) (m_charAt := m_charAt) (m_charWide := m_charWide) (m_trail := m_trail) (m_isMatch := m_isMatch) (m_matchGroups := m_matchGroups) (m_allFrom := m_allFrom) (m_allBefore := m_allBefore) (m_founds := m_founds) (m_pieces := m_pieces) (m_writtenMany := m_writtenMany) (m_templateWide := m_templateWide) (m_tooMuch := m_tooMuch) (WP := WP) (WD := WD) (WT := WT) (WG := (zu WG w m_got)) (WS := (zu WS w ((WS w) + 1))) (to := (WT w)) (x := c210) (y := (WD w)) h80 h128 h129 h130 h131 h132 (by omega) (by omega)) (fun oc G2 h => by rcases h with ⟨h, _⟩ <;> exact ⟨_, h⟩) (by omega) m_MO_open ml_MO_464 im_MO_open se_MO_open c_MO h80.2.2 (Nat.le_of_ble_eq_true rfl) d_MO_goEither_112 rfl ?_
    intro v G21 hq
    rcases hq with ⟨hv, hfk, hlk, hsk, hN80, hN128, hN129, hN130, hN131, hN132⟩
    cases hv
    have h94 := hfk.get h94 (by decide)
    have h95 := hfk.get h95 (by decide)
    have h96 := hfk.get h96 (by decide)
    have h97 := hfk.get h97 (by decide)
    have h98 := hfk.get h98 (by decide)
    have h99 := hfk.get h99 (by decide)
    have h100 := hfk.get h100 (by decide)
    have h101 := hfk.get h101 (by decide)
    have h90 := hfk.get h90 (by decide)
    have h89 := hfk.get h89 (by decide)
    have h91 := hfk.get h91 (by decide)
    have h92 := hfk.get h92 (by decide)
    have h118 := hfk.get h118 (by decide)
    have h119 := hfk.get h119 (by decide)
    have h120 := hfk.get h120 (by decide)
    have h121 := hfk.get h121 (by decide)
    have h122 := hfk.get h122 (by decide)
    have h123 := hfk.get h123 (by decide)
    have h124 := hfk.get h124 (by decide)
    have h117 := hfk.get h117 (by decide)
    have h125 := hfk.get h125 (by decide)
    have h133 := hfk.get h133 (by decide)
    have hfr := hfr.tr hfk (by decide)
    have hlen := hlk.trans hlen
    have hsl := hsk.trans hsl
    have h80 := hN80
    have h128 := hN128
    have h129 := hN129
    have h130 := hN130
    have h131 := hN131
    have h132 := hN132
    change ab_W _ _ _ G21 115 [some (vR 80), some (vz w), some (vz c210)] [] _
    refine ab_vret rfl d_MO_goEither_115 ?_
    rw [hQ]; exact (Or.inr ⟨_, _, m_got, _, _, _, _, _, rfl, hfr, hlen, hsl, h80, h128, h129, h130, h131, h132, (by first | exact (rgs_zu gwp (by omega)) | exact rgs_w (rgs_zu gwp (by omega)) (by omega)), (by first | exact (rgs_zu gwd (by omega)) | exact rgs_w (rgs_zu gwd (by omega)) (by omega)), (by first | exact (rgs_zu gwt (by omega)) | exact rgs_w (rgs_zu gwt (by omega)) (by omega)), (by first | exact (rgs_zu (rgs_zu gwg (by omega)) (by omega)) | exact rgs_w (rgs_zu (rgs_zu gwg (by omega)) (by omega)) (by omega)), (by first | exact (rgs_zu (rgs_zu gws (by omega)) (by omega)) | exact rgs_w (rgs_zu (rgs_zu gws (by omega)) (by omega)) (by omega)), (by exact fun j_ a_ => ⟨by rw [zu_ne (by omega)], by rw [zu_ne (by omega)], by rw [zu_ne (by omega)], by rw [zu_ne (by omega), zu_ne (by omega)], by rw [zu_ne (by omega), zu_ne (by omega)]⟩), (by rw [zu_self]), (by rw [zu_self]), (by rw [zu_self]), (by rw [zu_self]), (by rw [zu_self]), (by rw [zu_ne (show w ≠ m_work by omega)]), (by rw [zu_ne (show w ≠ m_work by omega)]), (by rw [zu_ne (show w ≠ m_work by omega)]), (by rw [zu_ne (show w ≠ m_work by omega), zu_self]), (by rw [zu_ne (show w ≠ m_work by omega), zu_self] <;> omega), (by omega), (by first | rfl | (rw [zu_self]; done) | omega), (by first | rfl | (rw [zu_self]; done) | omega), (by omega), (by exact hq12), (by exact hq13)⟩)
set_option maxRecDepth 100000 in
set_option maxHeartbeats 4000000 in
theorem z_MO_goEither_n {X : ab_X} {d : Nat} {o : Nat → Nat} {G : ab_G} {m_thrown : Int} {m_taped : Int} {m_length : Int} {m_out : Int} {m_wide : Int} {m_gathered : Int} {m_sets : Int} {m_ranges : Int} {m_nodes : Int} {m_at : Int} {m_flags : Int} {m_fault : Int} {m_place : Int} {m_numbered : Int} {m_depth : Int} {m_value : Int} {m_isNot : Int} {m_least0 : Int} {m_most0 : Int} {m_slot : Int} {m_work : Int} {m_got : Int} {m_rowMany : Int} {m_charAt : Int} {m_charWide : Int} {m_trail : Int} {m_isMatch : Int} {m_matchGroups : Int} {m_allFrom : Int} {m_allBefore : Int} {m_founds : Int} {m_pieces : Int} {m_writtenMany : Int} {m_templateWide : Int} {m_tooMuch : Int} {T : Int → Int} {N : Int → Int} {W : Int → Int} {CA : Int → Int} {CM : Int → Int} {CL : Int → Int} {CH : Int → Int} {SN : Int → Int} {CC : Int → Int} {RO : Int → Int} {WP : Int → Int} {WD : Int → Int} {WT : Int → Int} {WG : Int → Int} {WS : Int → Int} {K : Int → Int} {O : Int → Int} {Fi : Int → Int} {Be : Int → Int} {Le : Int → Int} {Mo : Int → Int} {Z : Int → Int} {LZ : Int → Int} {SM : Int → Int} {SA : Int → Int} {RL : Int → Int} {RH : Int → Int} {w : Int} {ns : Int} {pa : Int → Int} {po : Int → Int} {MN : Int → Int} {dl : Int → Int} {st : Int → Int} {ht : Int → Int} {hh : Int → Int} {PS : Int → Int → Int} {T_ : Int} {QF : Int → Int} {QL : Int → Int} {AF : Int → Int} {AL : Int → Int} {SD : Int → Int} {nd : Int} (h80 : cc o G 80 280 (ab_ob 12 (mof m_thrown m_taped m_length m_out m_wide m_gathered m_sets m_ranges m_nodes m_at m_flags m_fault m_place m_numbered m_depth m_value m_isNot m_least0 m_most0 m_slot m_work m_got m_rowMany m_charAt m_charWide m_trail m_isMatch m_matchGroups m_allFrom m_allBefore m_founds m_pieces m_writtenMany m_templateWide m_tooMuch))) (h94 : cc o G 94 294 (za 4200 K)) (h95 : cc o G 95 295 (za 4200 O)) (h96 : cc o G 96 296 (za 4200 Fi)) (h97 : cc o G 97 297 (za 4200 Be)) (h98 : cc o G 98 298 (za 4200 Le)) (h99 : cc o G 99 299 (za 4200 Mo)) (h100 : cc o G 100 300 (zl 4200 Z)) (h101 : cc o G 101 301 (zb 4200 LZ)) (h90 : cc o G 90 290 (za 2100 SM)) (h89 : cc o G 89 289 (za 2100 SA)) (h91 : cc o G 91 291 (za 24000 RL)) (h92 : cc o G 92 292 (za 24000 RH)) (h118 : cc o G 118 318 (za 75000 T)) (h119 : cc o G 119 319 (za 75000 N)) (h120 : cc o G 120 320 (za 75000 W)) (h121 : cc o G 121 321 (za 75000 CA)) (h122 : cc o G 122 322 (za 75000 CM)) (h123 : cc o G 123 323 (za 3600 CL)) (h124 : cc o G 124 324 (za 3600 CH)) (h117 : cc o G 117 317 (za 6 SN)) (h125 : cc o G 125 325 (za 6 CC)) (h133 : cc o G 133 333 (za 40000 RO)) (h128 : cc o G 128 328 (za 300 WP)) (h129 : cc o G 129 329 (za 300 WD)) (h130 : cc o G 130 330 (za 300 WT)) (h131 : cc o G 131 331 (za 300 WG)) (h132 : cc o G 132 332 (za 300 WS)) (n18 : ab_n0 = 18) (csl : 0 ≤ m_slot ∧ m_slot ≤ 5) (jrl : rgs RL 24000 0 1114111) (jrh : rgs RH 24000 0 1114111) (jk : rgs K 4200 0 7) (jo : rgs O 4200 (-1) 3000) (jfi : rgs Fi 4200 (-1) 4199) (jbe : rgs Be 4200 (-1) 4199) (jle : rgs Le 4200 0 1000) (jmo : rgs Mo 4200 (-1) 1000) (jz : rgs Z 4200 (-1) 1000000000000) (jlz : rgs LZ 4200 0 1) (jsm : rgs SM 2100 0 24000) (jsa : rgs SA 2100 0 24000) (gt : rgs T 75000 0 6) (gn : rgs N 75000 (-1) 12499) (gw : rgs W 75000 (-1) 12499) (gca : rgs CA 75000 0 3600) (gcm : rgs CM 75000 0 24000) (gcl : rgs CL 3600 0 1114111) (gch : rgs CH 3600 0 1114111) (gsn : rgs SN 6 0 12500) (gcc : rgs CC 6 0 600) (gro : rgs RO 40000 0 12499) (gwp : rgs WP 300 0 4199) (gwd : rgs WD 300 0 31) (gwt : rgs WT 300 0 39968) (gwg : rgs WG 300 0 39968) (gws : rgs WS 300 0 4300) (jka : tka T W CA CM SM SA RL RH CL CH (12500 * m_slot) (SN m_slot) m_slot (CC m_slot) ns) (jss : sas SA SM ns) (cst : 0 ≤ m_rowMany ∧ m_rowMany ≤ 1250 ∧ 0 ≤ (SN m_slot) ∧ (SN m_slot) ≤ 12500 ∧ 0 ≤ ns ∧ ns ≤ 2100) (cw : 0 ≤ w ∧ m_work = w + 1 ∧ w < 299) (cx : 0 ≤ WP w ∧ WP w < nd ∧ 0 ≤ nd ∧ nd ≤ 4200 ∧ 0 ≤ WD w ∧ WD w ≤ 31 ∧ 0 ≤ WT w ∧ WT w + 32 ≤ 32 * m_rowMany) (jG : rtG K O Fi Be Le Mo Z SM QF QL AF AL SD nd ns 0 pa po MN dl st ht hh PS T_) (ck : K (WP w) = 5) (jf : rtF nd pa po MN (WP w) (Fi (WP w))) (cws : 0 ≤ WS w ∧ WS w ≤ 4200) (cs0 : 1 < WS w) (jgo : rokk RO m_got (WD w + 1) (SN m_slot)) (cgo : 0 ≤ m_got ∧ m_got + 32 ≤ 32 * m_rowMany) (jwg : rokk RO (WG w) (WD w + 1) (SN m_slot)) (cwg : 0 ≤ WG w ∧ WG w + 32 ≤ 32 * m_rowMany) (crs : m_rowMany ≤ 1249 ∧ (SN m_slot) + WD w + 1 ≤ 12500) (hd : 4 ≤ d) : ab_F X d y_MO_goEither (.code y_MO_goEither b_MO_goEither 3 none) [vR 80, vz w] G (fun oc G2 => (∃ g2 : Int, ∃ WP2 : Int → Int, ∃ WD2 : Int → Int, ∃ WT2 : Int → Int, ∃ WG2 : Int → Int, ∃ WS2 : Int → Int, ∃ RO2 : Int → Int, ∃ T2 : Int → Int, ∃ N2 : Int → Int, ∃ W2 : Int → Int, ∃ SN2 : Int → Int, oc = .returned none ∧ fx o o [280, 328, 329, 330, 331, 332, 333, 318, 319, 320, 317] G G2 ∧ G2.length = G.length ∧ ab_slots G2 = ab_slots G ∧ cc o G2 80 280 (ab_ob 12 (mof m_thrown m_taped m_length m_out m_wide m_gathered m_sets m_ranges m_nodes m_at m_flags m_fault m_place m_numbered m_depth m_value m_isNot m_least0 m_most0 m_slot (m_work - 1) g2 (m_rowMany + 1) m_charAt m_charWide m_trail m_isMatch m_matchGroups m_allFrom m_allBefore m_founds m_pieces m_writtenMany m_templateWide m_tooMuch)) ∧ cc o G2 128 328 (za 300 WP2) ∧ cc o G2 129 329 (za 300 WD2) ∧ cc o G2 130 330 (za 300 WT2) ∧ cc o G2 131 331 (za 300 WG2) ∧ cc o G2 132 332 (za 300 WS2) ∧ cc o G2 133 333 (za 40000 RO2) ∧ cc o G2 118 318 (za 75000 T2) ∧ cc o G2 119 319 (za 75000 N2) ∧ cc o G2 120 320 (za 75000 W2) ∧ cc o G2 117 317 (za 6 SN2) ∧ (rgs WP2 300 0 4199) ∧ (rgs WD2 300 0 31) ∧ (rgs WT2 300 0 39968) ∧ (rgs WG2 300 0 39968) ∧ (rgs WS2 300 0 4300) ∧ (fsm WP WD WT WG WS WP2 WD2 WT2 WG2 WS2 w) ∧ (g2 = (32 * m_rowMany)) ∧ (MN (WP w) ≤ WS w ∧ 0 ≤ MN (WP w)) ∧ (rgs RO2 40000 0 12499) ∧ (rgs T2 75000 0 6) ∧ (rgs N2 75000 (-1) 12499) ∧ (rgs W2 75000 (-1) 12499) ∧ (rgs SN2 6 0 12500) ∧ ((SN m_slot) ≤ SN2 m_slot ∧ SN2 m_slot ≤ (SN m_slot) + WD w + 1) ∧ (rsm RO RO2 (32 * m_rowMany)) ∧ (sgn T2 N2 W2 (12500 * m_slot) (SN m_slot) (SN2 m_slot)) ∧ (stx T N W CA CM T2 N2 W2 CA CM (12500 * m_slot) (SN m_slot)) ∧ (sno SN SN2 m_slot) ∧ (tka T2 W2 CA CM SM SA RL RH CL CH (12500 * m_slot) (SN2 m_slot) m_slot (CC m_slot) ns) ∧ (rokk RO2 (32 * m_rowMany) (WD w + 1) (SN2 m_slot)) ∧ (rE T2 N2 W2 RO2 m_slot (SN m_slot) (SN2 m_slot) (32 * m_rowMany) (WD w + 1) 3 (fun i => RO (m_got + i)) (fun i => RO (WG w + i)))) ∨ (∃ c2 : Int, ∃ t2 : Int, ∃ u2 : Int, ∃ WP2 : Int → Int, ∃ WD2 : Int → Int, ∃ WT2 : Int → Int, ∃ WG2 : Int → Int, ∃ WS2 : Int → Int, ∃ RO2 : Int → Int, ∃ T2 : Int → Int, ∃ N2 : Int → Int, ∃ W2 : Int → Int, ∃ SN2 : Int → Int, oc = .returned none ∧ fx o o [280, 328, 329, 330, 331, 332, 333, 318, 319, 320, 317] G G2 ∧ G2.length = G.length ∧ ab_slots G2 = ab_slots G ∧ cc o G2 80 280 (ab_ob 12 (mof m_thrown m_taped m_length m_out m_wide m_gathered m_sets m_ranges m_nodes m_at m_flags m_fault m_place m_numbered m_depth m_value m_isNot m_least0 m_most0 m_slot (m_work + 1) m_got (m_rowMany + 1) m_charAt m_charWide m_trail m_isMatch m_matchGroups m_allFrom m_allBefore m_founds m_pieces m_writtenMany m_templateWide m_tooMuch)) ∧ cc o G2 128 328 (za 300 WP2) ∧ cc o G2 129 329 (za 300 WD2) ∧ cc o G2 130 330 (za 300 WT2) ∧ cc o G2 131 331 (za 300 WG2) ∧ cc o G2 132 332 (za 300 WS2) ∧ cc o G2 133 333 (za 40000 RO2) ∧ cc o G2 118 318 (za 75000 T2) ∧ cc o G2 119 319 (za 75000 N2) ∧ cc o G2 120 320 (za 75000 W2) ∧ cc o G2 117 317 (za 6 SN2) ∧ (rgs WP2 300 0 4199) ∧ (rgs WD2 300 0 31) ∧ (rgs WT2 300 0 39968) ∧ (rgs WG2 300 0 39968) ∧ (rgs WS2 300 0 4300) ∧ (fsm WP WD WT WG WS WP2 WD2 WT2 WG2 WS2 w) ∧ (WP2 m_work = c2) ∧ (WD2 m_work = WD w) ∧ (WT2 m_work = t2) ∧ (WG2 m_work = t2) ∧ (WS2 m_work = 0) ∧ (WP2 w = WP w) ∧ (WD2 w = WD w) ∧ (WT2 w = WT w) ∧ (WG2 w = u2) ∧ (WS2 w = (WS w + 1)) ∧ (0 ≤ c2 ∧ c2 < nd) ∧ (t2 = WT w) ∧ (u2 = (32 * m_rowMany)) ∧ (WS w < MN (WP w) ∧ MN (WP w) ≤ 4200) ∧ (pa c2 = WP w ∧ po c2 = MN (WP w) - 1 - WS w) ∧ (rgs RO2 40000 0 12499) ∧ (rgs T2 75000 0 6) ∧ (rgs N2 75000 (-1) 12499) ∧ (rgs W2 75000 (-1) 12499) ∧ (rgs SN2 6 0 12500) ∧ ((SN m_slot) ≤ SN2 m_slot ∧ SN2 m_slot ≤ (SN m_slot) + WD w + 1) ∧ (rsm RO RO2 (32 * m_rowMany)) ∧ (sgn T2 N2 W2 (12500 * m_slot) (SN m_slot) (SN2 m_slot)) ∧ (stx T N W CA CM T2 N2 W2 CA CM (12500 * m_slot) (SN m_slot)) ∧ (sno SN SN2 m_slot) ∧ (tka T2 W2 CA CM SM SA RL RH CL CH (12500 * m_slot) (SN2 m_slot) m_slot (CC m_slot) ns) ∧ (rokk RO2 (32 * m_rowMany) (WD w + 1) (SN2 m_slot)) ∧ (rE T2 N2 W2 RO2 m_slot (SN m_slot) (SN2 m_slot) (32 * m_rowMany) (WD w + 1) 3 (fun i => RO (m_got + i)) (fun i => RO (WG w + i))) ∧ (nthI Fi Be (WP w) (MN (WP w) - 1 - WS w) c2))) := by
  refine ab_F_of (by decide +kernel) (Nat.le_of_ble_eq_true rfl) ?_
  obtain ⟨Q, hQ⟩ : ∃ z : Outcome → ab_G → Prop, z = (fun oc G2 => (∃ g2 : Int, ∃ WP2 : Int → Int, ∃ WD2 : Int → Int, ∃ WT2 : Int → Int, ∃ WG2 : Int → Int, ∃ WS2 : Int → Int, ∃ RO2 : Int → Int, ∃ T2 : Int → Int, ∃ N2 : Int → Int, ∃ W2 : Int → Int, ∃ SN2 : Int → Int, oc = .returned none ∧ fx o o [280, 328, 329, 330, 331, 332, 333, 318, 319, 320, 317] G G2 ∧ G2.length = G.length ∧ ab_slots G2 = ab_slots G ∧ cc o G2 80 280 (ab_ob 12 (mof m_thrown m_taped m_length m_out m_wide m_gathered m_sets m_ranges m_nodes m_at m_flags m_fault m_place m_numbered m_depth m_value m_isNot m_least0 m_most0 m_slot (m_work - 1) g2 (m_rowMany + 1) m_charAt m_charWide m_trail m_isMatch m_matchGroups m_allFrom m_allBefore m_founds m_pieces m_writtenMany m_templateWide m_tooMuch)) ∧ cc o G2 128 328 (za 300 WP2) ∧ cc o G2 129 329 (za 300 WD2) ∧ cc o G2 130 330 (za 300 WT2) ∧ cc o G2 131 331 (za 300 WG2) ∧ cc o G2 132 332 (za 300 WS2) ∧ cc o G2 133 333 (za 40000 RO2) ∧ cc o G2 118 318 (za 75000 T2) ∧ cc o G2 119 319 (za 75000 N2) ∧ cc o G2 120 320 (za 75000 W2) ∧ cc o G2 117 317 (za 6 SN2) ∧ (rgs WP2 300 0 4199) ∧ (rgs WD2 300 0 31) ∧ (rgs WT2 300 0 39968) ∧ (rgs WG2 300 0 39968) ∧ (rgs WS2 300 0 4300) ∧ (fsm WP WD WT WG WS WP2 WD2 WT2 WG2 WS2 w) ∧ (g2 = (32 * m_rowMany)) ∧ (MN (WP w) ≤ WS w ∧ 0 ≤ MN (WP w)) ∧ (rgs RO2 40000 0 12499) ∧ (rgs T2 75000 0 6) ∧ (rgs N2 75000 (-1) 12499) ∧ (rgs W2 75000 (-1) 12499) ∧ (rgs SN2 6 0 12500) ∧ ((SN m_slot) ≤ SN2 m_slot ∧ SN2 m_slot ≤ (SN m_slot) + WD w + 1) ∧ (rsm RO RO2 (32 * m_rowMany)) ∧ (sgn T2 N2 W2 (12500 * m_slot) (SN m_slot) (SN2 m_slot)) ∧ (stx T N W CA CM T2 N2 W2 CA CM (12500 * m_slot) (SN m_slot)) ∧ (sno SN SN2 m_slot) ∧ (tka T2 W2 CA CM SM SA RL RH CL CH (12500 * m_slot) (SN2 m_slot) m_slot (CC m_slot) ns) ∧ (rokk RO2 (32 * m_rowMany) (WD w + 1) (SN2 m_slot)) ∧ (rE T2 N2 W2 RO2 m_slot (SN m_slot) (SN2 m_slot) (32 * m_rowMany) (WD w + 1) 3 (fun i => RO (m_got + i)) (fun i => RO (WG w + i)))) ∨ (∃ c2 : Int, ∃ t2 : Int, ∃ u2 : Int, ∃ WP2 : Int → Int, ∃ WD2 : Int → Int, ∃ WT2 : Int → Int, ∃ WG2 : Int → Int, ∃ WS2 : Int → Int, ∃ RO2 : Int → Int, ∃ T2 : Int → Int, ∃ N2 : Int → Int, ∃ W2 : Int → Int, ∃ SN2 : Int → Int, oc = .returned none ∧ fx o o [280, 328, 329, 330, 331, 332, 333, 318, 319, 320, 317] G G2 ∧ G2.length = G.length ∧ ab_slots G2 = ab_slots G ∧ cc o G2 80 280 (ab_ob 12 (mof m_thrown m_taped m_length m_out m_wide m_gathered m_sets m_ranges m_nodes m_at m_flags m_fault m_place m_numbered m_depth m_value m_isNot m_least0 m_most0 m_slot (m_work + 1) m_got (m_rowMany + 1) m_charAt m_charWide m_trail m_isMatch m_matchGroups m_allFrom m_allBefore m_founds m_pieces m_writtenMany m_templateWide m_tooMuch)) ∧ cc o G2 128 328 (za 300 WP2) ∧ cc o G2 129 329 (za 300 WD2) ∧ cc o G2 130 330 (za 300 WT2) ∧ cc o G2 131 331 (za 300 WG2) ∧ cc o G2 132 332 (za 300 WS2) ∧ cc o G2 133 333 (za 40000 RO2) ∧ cc o G2 118 318 (za 75000 T2) ∧ cc o G2 119 319 (za 75000 N2) ∧ cc o G2 120 320 (za 75000 W2) ∧ cc o G2 117 317 (za 6 SN2) ∧ (rgs WP2 300 0 4199) ∧ (rgs WD2 300 0 31) ∧ (rgs WT2 300 0 39968) ∧ (rgs WG2 300 0 39968) ∧ (rgs WS2 300 0 4300) ∧ (fsm WP WD WT WG WS WP2 WD2 WT2 WG2 WS2 w) ∧ (WP2 m_work = c2) ∧ (WD2 m_work = WD w) ∧ (WT2 m_work = t2) ∧ (WG2 m_work = t2) ∧ (WS2 m_work = 0) ∧ (WP2 w = WP w) ∧ (WD2 w = WD w) ∧ (WT2 w = WT w) ∧ (WG2 w = u2) ∧ (WS2 w = (WS w + 1)) ∧ (0 ≤ c2 ∧ c2 < nd) ∧ (t2 = WT w) ∧ (u2 = (32 * m_rowMany)) ∧ (WS w < MN (WP w) ∧ MN (WP w) ≤ 4200) ∧ (pa c2 = WP w ∧ po c2 = MN (WP w) - 1 - WS w) ∧ (rgs RO2 40000 0 12499) ∧ (rgs T2 75000 0 6) ∧ (rgs N2 75000 (-1) 12499) ∧ (rgs W2 75000 (-1) 12499) ∧ (rgs SN2 6 0 12500) ∧ ((SN m_slot) ≤ SN2 m_slot ∧ SN2 m_slot ≤ (SN m_slot) + WD w + 1) ∧ (rsm RO RO2 (32 * m_rowMany)) ∧ (sgn T2 N2 W2 (12500 * m_slot) (SN m_slot) (SN2 m_slot)) ∧ (stx T N W CA CM T2 N2 W2 CA CM (12500 * m_slot) (SN m_slot)) ∧ (sno SN SN2 m_slot) ∧ (tka T2 W2 CA CM SM SA RL RH CL CH (12500 * m_slot) (SN2 m_slot) m_slot (CC m_slot) ns) ∧ (rokk RO2 (32 * m_rowMany) (WD w + 1) (SN2 m_slot)) ∧ (rE T2 N2 W2 RO2 m_slot (SN m_slot) (SN2 m_slot) (32 * m_rowMany) (WD w + 1) 3 (fun i => RO (m_got + i)) (fun i => RO (WG w + i))) ∧ (nthI Fi Be (WP w) (MN (WP w) - 1 - WS w) c2))) := ⟨_, rfl⟩
  rw [← hQ]
  change ab_W X (ab_pl y_MO_goEither b_MO_goEither 3 none) d G 0 [some (vR 80), some (vz w), none] [] Q
  have hfr : fx o o [280, 328, 329, 330, 331, 332, 333, 318, 319, 320, 317] G G := fx.rf
  have hlen : G.length = G.length := rfl
  have hsl : ab_slots G = ab_slots G := rfl
  refine ab_aload_n d_MO_goEither_0 rfl ?_
  refine ab_getf (fs := mof m_thrown m_taped m_length m_out m_wide m_gathered m_sets m_ranges m_nodes m_at m_flags m_fault m_place m_numbered m_depth m_value m_isNot m_least0 m_most0 m_slot m_work m_got m_rowMany m_charAt m_charWide m_trail m_isMatch m_matchGroups m_allFrom m_allBefore m_founds m_pieces m_writtenMany m_templateWide m_tooMuch) f_MO_170 d_MO_goEither_1 h80.2.2 rfl ?_
  refine ab_iload_n d_MO_goEither_4 rfl ?_
  refine zz_iald d_MO_goEither_5 h132 (by omega) ?_
  have hq1 := gws w (by omega) (by omega)
  refine zz_iconst d_MO_goEither_6 ?_
  refine zz_icmp_ne (tgt := 20) d_MO_goEither_7 (by decide) (by omega) (by decide) (fun c2 => ?_) (fun c2 => absurd c2 (by omega))
  refine ab_aload_n d_MO_goEither_20 rfl ?_
  refine ab_getf (fs := mof m_thrown m_taped m_length m_out m_wide m_gathered m_sets m_ranges m_nodes m_at m_flags m_fault m_place m_numbered m_depth m_value m_isNot m_least0 m_most0 m_slot m_work m_got m_rowMany m_charAt m_charWide m_trail m_isMatch m_matchGroups m_allFrom m_allBefore m_founds m_pieces m_writtenMany m_templateWide m_tooMuch) f_MO_170 d_MO_goEither_21 h80.2.2 rfl ?_
  refine ab_iload_n d_MO_goEither_24 rfl ?_
  refine zz_iald d_MO_goEither_25 h132 (by omega) ?_
  have hq3 := gws w (by omega) (by omega)
  refine zz_iconst d_MO_goEither_26 ?_
  refine zz_icmp_le (tgt := 56) d_MO_goEither_27 (by decide) (by omega) (by decide) (fun c4 => absurd c4 (by omega)) (fun c4 => ?_)
  refine ab_aload_n d_MO_goEither_30 rfl ?_
  refine ab_getf (fs := mof m_thrown m_taped m_length m_out m_wide m_gathered m_sets m_ranges m_nodes m_at m_flags m_fault m_place m_numbered m_depth m_value m_isNot m_least0 m_most0 m_slot m_work m_got m_rowMany m_charAt m_charWide m_trail m_isMatch m_matchGroups m_allFrom m_allBefore m_founds m_pieces m_writtenMany m_templateWide m_tooMuch) f_MO_167 d_MO_goEither_31 h80.2.2 rfl ?_
  refine ab_iload_n d_MO_goEither_34 rfl ?_
  refine ab_aload_n d_MO_goEither_35 rfl ?_
  refine ab_aload_n d_MO_goEither_36 rfl ?_
  refine ab_getf (fs := mof m_thrown m_taped m_length m_out m_wide m_gathered m_sets m_ranges m_nodes m_at m_flags m_fault m_place m_numbered m_depth m_value m_isNot m_least0 m_most0 m_slot m_work m_got m_rowMany m_charAt m_charWide m_trail m_isMatch m_matchGroups m_allFrom m_allBefore m_founds m_pieces m_writtenMany m_templateWide m_tooMuch) f_MO_448 d_MO_goEither_37 h80.2.2 rfl ?_
  refine ab_aload_n d_MO_goEither_40 rfl ?_
  refine ab_getf (fs := mof m_thrown m_taped m_length m_out m_wide m_gathered m_sets m_ranges m_nodes m_at m_flags m_fault m_place m_numbered m_depth m_value m_isNot m_least0 m_most0 m_slot m_work m_got m_rowMany m_charAt m_charWide m_trail m_isMatch m_matchGroups m_allFrom m_allBefore m_founds m_pieces m_writtenMany m_templateWide m_tooMuch) f_MO_167 d_MO_goEither_41 h80.2.2 rfl ?_
  refine ab_iload_n d_MO_goEither_44 rfl ?_
  refine zz_iald d_MO_goEither_45 h131 (by omega) ?_
  have hq5 := gwg w (by omega) (by omega)
  refine ab_aload_n d_MO_goEither_46 rfl ?_
  refine ab_getf (fs := mof m_thrown m_taped m_length m_out m_wide m_gathered m_sets m_ranges m_nodes m_at m_flags m_fault m_place m_numbered m_depth m_value m_isNot m_least0 m_most0 m_slot m_work m_got m_rowMany m_charAt m_charWide m_trail m_isMatch m_matchGroups m_allFrom m_allBefore m_founds m_pieces m_writtenMany m_templateWide m_tooMuch) f_MO_161 d_MO_goEither_47 h80.2.2 rfl ?_
  refine ab_iload_n d_MO_goEither_50 rfl ?_
  refine zz_iald d_MO_goEither_51 h129 (by omega) ?_
  have hq6 := gwd w (by omega) (by omega)
  refine ab_callV (d' := d - 1) (as := [vz m_got, vz (WG w), vz (WD w)]) (st := [vz w, vR 131]) (r := _) (z_MO_eachOf (o := o) (m_thrown := m_thrown) (m_taped := m_taped) (m_length := m_length) (m_out := m_out) (m_wide := m_wide) (m_gathered := m_gathered) (m_sets := m_sets) (m_ranges := m_ranges) (m_nodes := m_nodes) (m_at := m_at) (m_flags := m_flags) (m_fault := m_fault) (m_place := m_place) (m_numbered := m_numbered) (m_depth := m_depth) (m_value := m_value) (m_isNot := m_isNot) (m_least0 := m_least0) (m_most0 := m_most0) (m_slot := m_slot) (m_work := m_work) (m_got := m_got) (m_rowMany := m_rowMany) (m_charAt := m_charAt) (m_charWide := m_charWide) (m_trail := m_trail) (m_isMatch := m_isMatch) (m_matchGroups := m_matchGroups) (m_allFrom := m_allFrom) (m_allBefore := m_allBefore) (m_founds := m_founds) (m_pieces := m_pieces) (m_writtenMany := m_writtenMany) (m_templateWide := m_templateWide) (m_tooMuch := m_tooMuch) (T := T) (N := N) (W := W) (CA := CA) (CM := CM) (CL := CL) (CH := CH) (SN := SN) (RO := RO) (SM := SM) (SA := SA) (RL := RL) (RH := RH) (dp := (WD w)) (x := m_got) (y := (WG w)) (ns := ns) (cl := (CC m_slot)) h80 h133 h118 h119 h120 h117 (by omega) (by omega) (by omega) gro gt gn gw gsn (by omega) jgo jwg jka (by omega)) (fun oc G2 h => by rcases h with ⟨_, _, _, _, _, h, _⟩ <;> exact ⟨_, h⟩) (by omega) m_MO_eachOf ml_MO_467 im_MO_eachOf se_MO_eachOf c_MO h80.2.2 (Nat.le_of_ble_eq_true rfl) d_MO_goEither_52 rfl ?_
  intro v G7 hq
  rcases hq with ⟨RO28, T29, N210, W211, SN212, hv, hfk, hlk, hsk, hN80, hN133, hN118, hN119, hN120, hN117, hq13, hq14, hq15, hq16, hq17, hq18, hq19, hq20, hq21, hq22, hq23, hq24, hq25⟩
  cases hv
  have h94 := hfk.get h94 (by decide)
  have h95 := hfk.get h95 (by decide)
  have h96 := hfk.get h96 (by decide)
  have h97 := hfk.get h97 (by decide)
  have h98 := hfk.get h98 (by decide)
  have h99 := hfk.get h99 (by decide)
  have h100 := hfk.get h100 (by decide)
  have h101 := hfk.get h101 (by decide)
  have h90 := hfk.get h90 (by decide)
  have h89 := hfk.get h89 (by decide)
  have h91 := hfk.get h91 (by decide)
  have h92 := hfk.get h92 (by decide)
  have h121 := hfk.get h121 (by decide)
  have h122 := hfk.get h122 (by decide)
  have h123 := hfk.get h123 (by decide)
  have h124 := hfk.get h124 (by decide)
  have h125 := hfk.get h125 (by decide)
  have h128 := hfk.get h128 (by decide)
  have h129 := hfk.get h129 (by decide)
  have h130 := hfk.get h130 (by decide)
  have h131 := hfk.get h131 (by decide)
  have h132 := hfk.get h132 (by decide)
  have hfr := hfr.tr hfk (by decide)
  have hlen := hlk.trans hlen
  have hsl := hsk.trans hsl
  have h80 := hN80
  have h133 := hN133
  have h118 := hN118
  have h119 := hN119
  have h120 := hN120
  have h117 := hN117
  change ab_W _ _ _ G7 55 [some (vR 80), some (vz w), none] [vz (32 * m_rowMany), vz w, vR 131] _
  refine zz_iast d_MO_goEither_55 h131 (by omega) (h131.2.1 (by decide)) ?_
  obtain ⟨G26, eG26⟩ : ∃ z : ab_G, z = List.set G7 131 (za 300 (zu WG w (32 * m_rowMany))) := ⟨_, rfl⟩
  have h80 := h80.keep h131 eG26 (by decide)
  have h94 := h94.keep h131 eG26 (by decide)
  have h95 := h95.keep h131 eG26 (by decide)
  have h96 := h96.keep h131 eG26 (by decide)
  have h97 := h97.keep h131 eG26 (by decide)
  have h98 := h98.keep h131 eG26 (by decide)
  have h99 := h99.keep h131 eG26 (by decide)
  have h100 := h100.keep h131 eG26 (by decide)
  have h101 := h101.keep h131 eG26 (by decide)
  have h90 := h90.keep h131 eG26 (by decide)
  have h89 := h89.keep h131 eG26 (by decide)
  have h91 := h91.keep h131 eG26 (by decide)
  have h92 := h92.keep h131 eG26 (by decide)
  have h118 := h118.keep h131 eG26 (by decide)
  have h119 := h119.keep h131 eG26 (by decide)
  have h120 := h120.keep h131 eG26 (by decide)
  have h121 := h121.keep h131 eG26 (by decide)
  have h122 := h122.keep h131 eG26 (by decide)
  have h123 := h123.keep h131 eG26 (by decide)
  have h124 := h124.keep h131 eG26 (by decide)
  have h117 := h117.keep h131 eG26 (by decide)
  have h125 := h125.keep h131 eG26 (by decide)
  have h133 := h133.keep h131 eG26 (by decide)
  have h128 := h128.keep h131 eG26 (by decide)
  have h129 := h129.keep h131 eG26 (by decide)
  have h130 := h130.keep h131 eG26 (by decide)
  have h132 := h132.keep h131 eG26 (by decide)
  have hlen := (z_len eG26).trans hlen
  have hsl := (z_sl h131 eG26 rfl).trans hsl
  have hfr := hfr.wr h131 eG26 (by decide)
  have h131 := h131.kept eG26
  change ab_W _ _ _ (List.set G7 131 (za 300 (zu WG w (32 * m_rowMany)))) 56 [some (vR 80), some (vz w), none] [] _
  rw [← eG26]
  refine ab_aload_n d_MO_goEither_56 rfl ?_
  refine ab_aload_n d_MO_goEither_57 rfl ?_
  refine ab_getf (fs := mof m_thrown m_taped m_length m_out m_wide m_gathered m_sets m_ranges m_nodes m_at m_flags m_fault m_place m_numbered m_depth m_value m_isNot m_least0 m_most0 m_slot m_work m_got (m_rowMany + 1) m_charAt m_charWide m_trail m_isMatch m_matchGroups m_allFrom m_allBefore m_founds m_pieces m_writtenMany m_templateWide m_tooMuch) f_MO_158 d_MO_goEither_58 h80.2.2 rfl ?_
  refine ab_iload_n d_MO_goEither_61 rfl ?_
  refine zz_iald d_MO_goEither_62 h128 (by omega) ?_
  have hq27 := gwp w (by omega) (by omega)
  refine ab_aload_n d_MO_goEither_63 rfl ?_
  refine ab_getf (fs := mof m_thrown m_taped m_length m_out m_wide m_gathered m_sets m_ranges m_nodes m_at m_flags m_fault m_place m_numbered m_depth m_value m_isNot m_least0 m_most0 m_slot m_work m_got (m_rowMany + 1) m_charAt m_charWide m_trail m_isMatch m_matchGroups m_allFrom m_allBefore m_founds m_pieces m_writtenMany m_templateWide m_tooMuch) f_MO_170 d_MO_goEither_64 h80.2.2 rfl ?_
  refine ab_iload_n d_MO_goEither_67 rfl ?_
  refine zz_iald d_MO_goEither_68 h132 (by omega) ?_
  have hq28 := gws w (by omega) (by omega)
  refine ab_callV (d' := d - 1) (as := [vz (WP w), vz (WS w)]) (st := []) (r := _) (z_MO_fromEnd (o := o) (m_thrown := m_thrown) (m_taped := m_taped) (m_length := m_length) (m_out := m_out) (m_wide := m_wide) (m_gathered := m_gathered) (m_sets := m_sets) (m_ranges := m_ranges) (m_nodes := m_nodes) (m_at := m_at) (m_flags := m_flags) (m_fault := m_fault) (m_place := m_place) (m_numbered := m_numbered) (m_depth := m_depth) (m_value := m_value) (m_isNot := m_isNot) (m_least0 := m_least0) (m_most0 := m_most0) (m_slot := m_slot) (m_work := m_work) (m_got := m_got) (m_rowMany := (m_rowMany + 1)) (m_charAt := m_charAt) (m_charWide := m_charWide) (m_trail := m_trail) (m_isMatch := m_isMatch) (m_matchGroups := m_matchGroups) (m_allFrom := m_allFrom) (m_allBefore := m_allBefore) (m_founds := m_founds) (m_pieces := m_pieces) (m_writtenMany := m_writtenMany) (m_templateWide := m_templateWide) (m_tooMuch := m_tooMuch) (K := K) (O := O) (Fi := Fi) (Be := Be) (Le := Le) (Mo := Mo) (Z := Z) (SM := SM) (k := (WS w)) (x := (WP w)) (ns := ns) (pa := pa) (po := po) (MN := MN) (dl := dl) (st := st) (ht := ht) (hh := hh) (PS := PS) (T_ := T_) (QF := QF) (QL := QL) (AF := AF) (AL := AL) (SD := SD) (nd := nd) h80 h96 h97 jG (by omega) jfi jf (by omega) (by omega)) (fun oc G2 h => by rcases h with ⟨h, _⟩ | ⟨_, h, _⟩ <;> exact ⟨_, h⟩) (by omega) m_MO_fromEnd ml_MO_457 im_MO_fromEnd se_MO_fromEnd c_MO h80.2.2 (Nat.le_of_ble_eq_true rfl) d_MO_goEither_69 rfl ?_
  intro v G29 hq
  rcases hq with ⟨hv, hfk, hlk, hsk, hq30⟩ | ⟨c231, hv, hfk, hlk, hsk, hq32, hq33, hq34⟩
  · cases hv
    have h80 := hfk.get h80 (by decide)
    have h94 := hfk.get h94 (by decide)
    have h95 := hfk.get h95 (by decide)
    have h96 := hfk.get h96 (by decide)
    have h97 := hfk.get h97 (by decide)
    have h98 := hfk.get h98 (by decide)
    have h99 := hfk.get h99 (by decide)
    have h100 := hfk.get h100 (by decide)
    have h101 := hfk.get h101 (by decide)
    have h90 := hfk.get h90 (by decide)
    have h89 := hfk.get h89 (by decide)
    have h91 := hfk.get h91 (by decide)
    have h92 := hfk.get h92 (by decide)
    have h118 := hfk.get h118 (by decide)
    have h119 := hfk.get h119 (by decide)
    have h120 := hfk.get h120 (by decide)
    have h121 := hfk.get h121 (by decide)
    have h122 := hfk.get h122 (by decide)
    have h123 := hfk.get h123 (by decide)
    have h124 := hfk.get h124 (by decide)
    have h117 := hfk.get h117 (by decide)
    have h125 := hfk.get h125 (by decide)
    have h133 := hfk.get h133 (by decide)
    have h128 := hfk.get h128 (by decide)
    have h129 := hfk.get h129 (by decide)
    have h130 := hfk.get h130 (by decide)
    have h131 := hfk.get h131 (by decide)
    have h132 := hfk.get h132 (by decide)
    have hfr := hfr.tr hfk (by decide)
    have hlen := hlk.trans hlen
    have hsl := hsk.trans hsl
    change ab_W _ _ _ G29 72 [some (vR 80), some (vz w), none] [vz (-1)] _
    refine ab_istore_n d_MO_goEither_72 (Nat.le_of_ble_eq_true rfl) (Nat.le_of_ble_eq_true rfl) rfl ?_
    change ab_W _ _ _ G29 73 [some (vR 80), some (vz w), some (vz (-1))] [] _
    refine ab_iload_n d_MO_goEither_73 rfl ?_
    refine zz_if_ge (tgt := 88) d_MO_goEither_74 (by decide) (by decide) (fun c35 => absurd c35 (by decide)) (fun c35 => ?_)
    refine ab_aload_n d_MO_goEither_77 rfl ?_
    refine ab_aload_n d_MO_goEither_78 rfl ?_
    refine ab_getf (fs := mof m_thrown m_taped m_length m_out m_wide m_gathered m_sets m_ranges m_nodes m_at m_flags m_fault m_place m_numbered m_depth m_value m_isNot m_least0 m_most0 m_slot m_work m_got (m_rowMany + 1) m_charAt m_charWide m_trail m_isMatch m_matchGroups m_allFrom m_allBefore m_founds m_pieces m_writtenMany m_templateWide m_tooMuch) f_MO_167 d_MO_goEither_79 h80.2.2 rfl ?_
    refine ab_iload_n d_MO_goEither_82 rfl ?_
    refine zz_iald d_MO_goEither_83 h131 (by omega) ?_
    refine zz_top (zu_self _ _ _) ?_
    refine ab_callV (d' := d - 1) (as := [vz (32 * m_rowMany)]) (st := []) (r := _) (z_MO_done (o := o) (m_thrown := m_thrown) (m_taped := m_taped) (m_length := m_length) (m_out := m_out) (m_wide := m_wide) (m_gathered := m_gathered) (m_sets := m_sets) (m_ranges := m_ranges) (m_nodes := m_nodes) (m_at := m_at) (m_flags := m_flags) (m_fault := m_fault) (m_place := m_place) (m_numbered := m_numbered) (m_depth := m_depth) (m_value := m_value) (m_isNot := m_isNot) (m_least0 := m_least0) (m_most0 := m_most0) (m_slot := m_slot) (m_work := m_work) (m_got := m_got) (m_rowMany := (m_rowMany + 1)) (m_charAt := m_charAt) (m_charWide := m_charWide) (m_trail := m_trail) (m_isMatch := m_isMatch) (m_matchGroups := m_matchGroups) (m_allFrom := m_allFrom) (m_allBefore := m_allBefore) (m_founds := m_founds) (m_pieces := m_pieces) (m_writtenMany := m_writtenMany) (m_templateWide := m_templateWide) (m_tooMuch := m_tooMuch) (x := (32 * m_rowMany)) h80 (by omega)) (fun oc G2 h => by rcases h with ⟨h, _⟩ <;> exact ⟨_, h⟩) (by omega) m_MO_done ml_MO_461 im_MO_done se_MO_done c_MO h80.2.2 (Nat.le_of_ble_eq_true rfl) d_MO_goEither_84 rfl ?_
    intro v G36 hq
    rcases hq with ⟨hv, hfk, hlk, hsk, hN80⟩
    cases hv
    have h94 := hfk.get h94 (by decide)
    have h95 := hfk.get h95 (by decide)
    have h96 := hfk.get h96 (by decide)
    have h97 := hfk.get h97 (by decide)
    have h98 := hfk.get h98 (by decide)
    have h99 := hfk.get h99 (by decide)
    have h100 := hfk.get h100 (by decide)
    have h101 := hfk.get h101 (by decide)
    have h90 := hfk.get h90 (by decide)
    have h89 := hfk.get h89 (by decide)
    have h91 := hfk.get h91 (by decide)
    have h92 := hfk.get h92 (by decide)
    have h118 := hfk.get h118 (by decide)
    have h119 := hfk.get h119 (by decide)
    have h120 := hfk.get h120 (by decide)
    have h121 := hfk.get h121 (by decide)
    have h122 := hfk.get h122 (by decide)
    have h123 := hfk.get h123 (by decide)
    have h124 := hfk.get h124 (by decide)
    have h117 := hfk.get h117 (by decide)
    have h125 := hfk.get h125 (by decide)
    have h133 := hfk.get h133 (by decide)
    have h128 := hfk.get h128 (by decide)
    have h129 := hfk.get h129 (by decide)
    have h130 := hfk.get h130 (by decide)
    have h131 := hfk.get h131 (by decide)
    have h132 := hfk.get h132 (by decide)
    have hfr := hfr.tr hfk (by decide)
    have hlen := hlk.trans hlen
    have hsl := hsk.trans hsl
    have h80 := hN80
    change ab_W _ _ _ G36 87 [some (vR 80), some (vz w), some (vz (-1))] [] _
    refine ab_vret rfl d_MO_goEither_87 ?_
    rw [hQ]; exact (Or.inl ⟨_, _, _, _, _, _, _, _, _, _, _, rfl, hfr, hlen, hsl, h80, h128, h129, h130, h131, h132, h133, h118, h119, h120, h117, (by first | exact gwp | exact rgs_w gwp (by omega)), (by first | exact gwd | exact rgs_w gwd (by omega)), (by first | exact gwt | exact rgs_w gwt (by omega)), (by first | exact (rgs_zu gwg (by omega)) | exact rgs_w (rgs_zu gwg (by omega)) (by omega)), (by first | exact gws | exact rgs_w gws (by omega)), (by exact fun j_ a_ => ⟨rfl, rfl, rfl, by rw [zu_ne (by omega)], rfl⟩), (by first | rfl | (rw [zu_self]; done) | omega), (by omega), (by first | exact hq13 | exact rgs_w hq13 (by omega)), (by first | exact hq14 | exact rgs_w hq14 (by omega)), (by first | exact hq15 | exact rgs_w hq15 (by omega)), (by first | exact hq16 | exact rgs_w hq16 (by omega)), (by first | exact hq17 | exact rgs_w hq17 (by omega)), (by omega), (by exact hq20), (by exact hq21), (by exact hq22), (by exact hq23), (by exact hq24), (by exact hq19), (by exact hq25)⟩)
  · cases hv
    have h80 := hfk.get h80 (by decide)
    have h94 := hfk.get h94 (by decide)
    have h95 := hfk.get h95 (by decide)
    have h96 := hfk.get h96 (by decide)
    have h97 := hfk.get h97 (by decide)
    have h98 := hfk.get h98 (by decide)
    have h99 := hfk.get h99 (by decide)
    have h100 := hfk.get h100 (by decide)
    have h101 := hfk.get h101 (by decide)
    have h90 := hfk.get h90 (by decide)
    have h89 := hfk.get h89 (by decide)
    have h91 := hfk.get h91 (by decide)
    have h92 := hfk.get h92 (by decide)
    have h118 := hfk.get h118 (by decide)
    have h119 := hfk.get h119 (by decide)
    have h120 := hfk.get h120 (by decide)
    have h121 := hfk.get h121 (by decide)
    have h122 := hfk.get h122 (by decide)
    have h123 := hfk.get h123 (by decide)
    have h124 := hfk.get h124 (by decide)
    have h117 := hfk.get h117 (by decide)
    have h125 := hfk.get h125 (by decide)
    have h133 := hfk.get h133 (by decide)
    have h128 := hfk.get h128 (by decide)
    have h129 := hfk.get h129 (by decide)
    have h130 := hfk.get h130 (by decide)
    have h131 := hfk.get h131 (by decide)
    have h132 := hfk.get h132 (by decide)
    have hfr := hfr.tr hfk (by decide)
    have hlen := hlk.trans hlen
    have hsl := hsk.trans hsl
    change ab_W _ _ _ G29 72 [some (vR 80), some (vz w), none] [vz c231] _
    refine ab_istore_n d_MO_goEither_72 (Nat.le_of_ble_eq_true rfl) (Nat.le_of_ble_eq_true rfl) rfl ?_
    change ab_W _ _ _ G29 73 [some (vR 80), some (vz w), some (vz c231)] [] _
    refine ab_iload_n d_MO_goEither_73 rfl ?_
    refine zz_if_ge (tgt := 88) d_MO_goEither_74 (by decide) (by omega) (fun c37 => ?_) (fun c37 => absurd c37 (by omega))
    refine ab_aload_n d_MO_goEither_88 rfl ?_
    refine ab_getf (fs := mof m_thrown m_taped m_length m_out m_wide m_gathered m_sets m_ranges m_nodes m_at m_flags m_fault m_place m_numbered m_depth m_value m_isNot m_least0 m_most0 m_slot m_work m_got (m_rowMany + 1) m_charAt m_charWide m_trail m_isMatch m_matchGroups m_allFrom m_allBefore m_founds m_pieces m_writtenMany m_templateWide m_tooMuch) f_MO_170 d_MO_goEither_89 h80.2.2 rfl ?_
    refine ab_iload_n d_MO_goEither_92 rfl ?_
    refine ab_dup2 d_MO_goEither_93 rfl rfl ?_
    refine zz_iald d_MO_goEither_94 h132 (by omega) ?_
    have hq38 := gws w (by omega) (by omega)
    refine zz_iconst d_MO_goEither_95 ?_
    refine zz_iadd d_MO_goEither_96 ?_
    refine zz_iast d_MO_goEither_97 h132 (by omega) (h132.2.1 (by decide)) ?_
    obtain ⟨G39, eG39⟩ : ∃ z : ab_G, z = List.set G29 132 (za 300 (zu WS w ((WS w) + 1))) := ⟨_, rfl⟩
    have h80 := h80.keep h132 eG39 (by decide)
    have h94 := h94.keep h132 eG39 (by decide)
    have h95 := h95.keep h132 eG39 (by decide)
    have h96 := h96.keep h132 eG39 (by decide)
    have h97 := h97.keep h132 eG39 (by decide)
    have h98 := h98.keep h132 eG39 (by decide)
    have h99 := h99.keep h132 eG39 (by decide)
    have h100 := h100.keep h132 eG39 (by decide)
    have h101 := h101.keep h132 eG39 (by decide)
    have h90 := h90.keep h132 eG39 (by decide)
    have h89 := h89.keep h132 eG39 (by decide)
    have h91 := h91.keep h132 eG39 (by decide)
    have h92 := h92.keep h132 eG39 (by decide)
    have h118 := h118.keep h132 eG39 (by decide)
    have h119 := h119.keep h132 eG39 (by decide)
    have h120 := h120.keep h132 eG39 (by decide)
    have h121 := h121.keep h132 eG39 (by decide)
    have h122 := h122.keep h132 eG39 (by decide)
    have h123 := h123.keep h132 eG39 (by decide)
    have h124 := h124.keep h132 eG39 (by decide)
    have h117 := h117.keep h132 eG39 (by decide)
    have h125 := h125.keep h132 eG39 (by decide)
    have h133 := h133.keep h132 eG39 (by decide)
    have h128 := h128.keep h132 eG39 (by decide)
    have h129 := h129.keep h132 eG39 (by decide)
    have h130 := h130.keep h132 eG39 (by decide)
    have h131 := h131.keep h132 eG39 (by decide)
    have hlen := (z_len eG39).trans hlen
    have hsl := (z_sl h132 eG39 rfl).trans hsl
    have hfr := hfr.wr h132 eG39 (by decide)
    have h132 := h132.kept eG39
    change ab_W _ _ _ (List.set G29 132 (za 300 (zu WS w ((WS w) + 1)))) 98 [some (vR 80), some (vz w), some (vz c231)] [] _
    rw [← eG39]
    refine ab_aload_n d_MO_goEither_98 rfl ?_
    refine ab_iload_n d_MO_goEither_99 rfl ?_
    refine ab_aload_n d_MO_goEither_100 rfl ?_
    refine ab_getf (fs := mof m_thrown m_taped m_length m_out m_wide m_gathered m_sets m_ranges m_nodes m_at m_flags m_fault m_place m_numbered m_depth m_value m_isNot m_least0 m_most0 m_slot m_work m_got (m_rowMany + 1) m_charAt m_charWide m_trail m_isMatch m_matchGroups m_allFrom m_allBefore m_founds m_pieces m_writtenMany m_templateWide m_tooMuch) f_MO_161 d_MO_goEither_101 h80.2.2 rfl ?_
    refine ab_iload_n d_MO_goEither_104 rfl ?_
    refine zz_iald d_MO_goEither_105 h129 (by omega) ?_
    have hq40 := gwd w (by omega) (by omega)
    refine ab_aload_n d_MO_goEither_106 rfl ?_
    refine ab_getf (fs := mof m_thrown m_taped m_length m_out m_wide m_gathered m_sets m_ranges m_nodes m_at m_flags m_fault m_place m_numbered m_depth m_value m_isNot m_least0 m_most0 m_slot m_work m_got (m_rowMany + 1) m_charAt m_charWide m_trail m_isMatch m_matchGroups m_allFrom m_allBefore m_founds m_pieces m_writtenMany m_templateWide m_tooMuch) f_MO_164 d_MO_goEither_107 h80.2.2 rfl ?_
    refine ab_iload_n d_MO_goEither_110 rfl ?_
    refine zz_iald d_MO_goEither_111 h130 (by omega) ?_
    have hq41 := gwt w (by omega) (by omega)
    refine ab_callV (d' := d - 1) (as := [vz c231, vz (WD w), vz (WT w)]) (st := []) (r := _) (z_MO_open (o := o) (m_thrown := m_thrown) (m_taped := m_taped) (m_length := m_length) (m_out := m_out) (m_wide := m_wide) (m_gathered := m_gathered) (m_sets := m_sets) (m_ranges := m_ranges) (m_nodes := m_nodes) (m_at := m_at) (m_flags := m_flags) (m_fault := m_fault) (m_place := m_place) (m_numbered := m_numbered) (m_depth := m_depth) (m_value := m_value) (m_isNot := m_isNot) (m_least0 := m_least0) (m_most0 := m_most0) (m_slot := m_slot) (m_work := m_work) (m_got := m_got) (m_rowMany := (m_rowMany + 1)) (m_charAt := m_charAt) (m_charWide := m_charWide) (m_trail := m_trail) (m_isMatch := m_isMatch) (m_matchGroups := m_matchGroups) (m_allFrom := m_allFrom) (m_allBefore := m_allBefore) (m_founds := m_founds) (m_pieces := m_pieces) (m_writtenMany := m_writtenMany) (m_templateWide := m_templateWide) (m_tooMuch := m_tooMuch) (WP := WP) (WD := WD) (WT := WT) (WG := (zu WG w (32 * m_rowMany))) (WS := (zu WS w ((WS w) + 1))) (to := (WT w)) (x := c231) (y := (WD w)) h80 h128 h129 h130 h131 h132 (by omega) (by omega)) (fun oc G2 h => by rcases h with ⟨h, _⟩ <;> exact ⟨_, h⟩) (by omega) m_MO_open ml_MO_464 im_MO_open se_MO_open c_MO h80.2.2 (Nat.le_of_ble_eq_true rfl) d_MO_goEither_112 rfl ?_
    intro v G42 hq
    rcases hq with ⟨hv, hfk, hlk, hsk, hN80, hN128, hN129, hN130, hN131, hN132⟩
    cases hv
    have h94 := hfk.get h94 (by decide)
    have h95 := hfk.get h95 (by decide)
    have h96 := hfk.get h96 (by decide)
    have h97 := hfk.get h97 (by decide)
    have h98 := hfk.get h98 (by decide)
    have h99 := hfk.get h99 (by decide)
    have h100 := hfk.get h100 (by decide)
    have h101 := hfk.get h101 (by decide)
    have h90 := hfk.get h90 (by decide)
    have h89 := hfk.get h89 (by decide)
    have h91 := hfk.get h91 (by decide)
    have h92 := hfk.get h92 (by decide)
    have h118 := hfk.get h118 (by decide)
    have h119 := hfk.get h119 (by decide)
    have h120 := hfk.get h120 (by decide)
    have h121 := hfk.get h121 (by decide)
    have h122 := hfk.get h122 (by decide)
    have h123 := hfk.get h123 (by decide)
    have h124 := hfk.get h124 (by decide)
    have h117 := hfk.get h117 (by decide)
    have h125 := hfk.get h125 (by decide)
    have h133 := hfk.get h133 (by decide)
    have hfr := hfr.tr hfk (by decide)
    have hlen := hlk.trans hlen
    have hsl := hsk.trans hsl
    have h80 := hN80
    have h128 := hN128
    have h129 := hN129
    have h130 := hN130
    have h131 := hN131
    have h132 := hN132
    change ab_W _ _ _ G42 115 [some (vR 80), some (vz w), some (vz c231)] [] _
    refine ab_vret rfl d_MO_goEither_115 ?_
    rw [hQ]; exact (Or.inr ⟨_, _, (32 * m_rowMany), _, _, _, _, _, _, _, _, _, _, rfl, hfr, hlen, hsl, h80, h128, h129, h130, h131, h132, h133, h118, h119, h120, h117, (by first | exact (rgs_zu gwp (by omega)) | exact rgs_w (rgs_zu gwp (by omega)) (by omega)), (by first | exact (rgs_zu gwd (by omega)) | exact rgs_w (rgs_zu gwd (by omega)) (by omega)), (by first | exact (rgs_zu gwt (by omega)) | exact rgs_w (rgs_zu gwt (by omega)) (by omega)), (by first | exact (rgs_zu (rgs_zu gwg (by omega)) (by omega)) | exact rgs_w (rgs_zu (rgs_zu gwg (by omega)) (by omega)) (by omega)), (by first | exact (rgs_zu (rgs_zu gws (by omega)) (by omega)) | exact rgs_w (rgs_zu (rgs_zu gws (by omega)) (by omega)) (by omega)), (by exact fun j_ a_ => ⟨by rw [zu_ne (by omega)], by rw [zu_ne (by omega)], by rw [zu_ne (by omega)], by rw [zu_ne (by omega), zu_ne (by omega)], by rw [zu_ne (by omega), zu_ne (by omega)]⟩), (by rw [zu_self]), (by rw [zu_self]), (by rw [zu_self]), (by rw [zu_self]), (by rw [zu_self]), (by rw [zu_ne (show w ≠ m_work by omega)]), (by rw [zu_ne (show w ≠ m_work by omega)]), (by rw [zu_ne (show w ≠ m_work by omega)]), (by rw [zu_ne (show w ≠ m_work by omega), zu_self]), (by rw [zu_ne (show w ≠ m_work by omega), zu_self] <;> omega), (by omega), (by first | rfl | (rw [zu_self]; done) | omega), (by first | rfl | (rw [zu_self]; done) | omega), (by omega), (by exact hq33), (by first | exact hq13 | exact rgs_w hq13 (by omega)), (by first | exact hq14 | exact rgs_w hq14 (by omega)), (by first | exact hq15 | exact rgs_w hq15 (by omega)), (by first | exact hq16 | exact rgs_w hq16 (by omega)), (by first | exact hq17 | exact rgs_w hq17 (by omega)), (by omega), (by exact hq20), (by exact hq21), (by exact hq22), (by exact hq23), (by exact hq24), (by exact hq19), (by exact hq25), (by exact hq34)⟩)
set_option maxRecDepth 100000 in
set_option maxHeartbeats 4000000 in
theorem z_MO_goGroup_0p {X : ab_X} {d : Nat} {o : Nat → Nat} {G : ab_G} {m_thrown : Int} {m_taped : Int} {m_length : Int} {m_out : Int} {m_wide : Int} {m_gathered : Int} {m_sets : Int} {m_ranges : Int} {m_nodes : Int} {m_at : Int} {m_flags : Int} {m_fault : Int} {m_place : Int} {m_numbered : Int} {m_depth : Int} {m_value : Int} {m_isNot : Int} {m_least0 : Int} {m_most0 : Int} {m_slot : Int} {m_work : Int} {m_got : Int} {m_rowMany : Int} {m_charAt : Int} {m_charWide : Int} {m_trail : Int} {m_isMatch : Int} {m_matchGroups : Int} {m_allFrom : Int} {m_allBefore : Int} {m_founds : Int} {m_pieces : Int} {m_writtenMany : Int} {m_templateWide : Int} {m_tooMuch : Int} {T : Int → Int} {N : Int → Int} {W : Int → Int} {CA : Int → Int} {CM : Int → Int} {CL : Int → Int} {CH : Int → Int} {SN : Int → Int} {CC : Int → Int} {RO : Int → Int} {WP : Int → Int} {WD : Int → Int} {WT : Int → Int} {WG : Int → Int} {WS : Int → Int} {K : Int → Int} {O : Int → Int} {Fi : Int → Int} {Be : Int → Int} {Le : Int → Int} {Mo : Int → Int} {Z : Int → Int} {LZ : Int → Int} {SM : Int → Int} {SA : Int → Int} {RL : Int → Int} {RH : Int → Int} {w : Int} {ns : Int} {nd : Int} (h80 : cc o G 80 280 (ab_ob 12 (mof m_thrown m_taped m_length m_out m_wide m_gathered m_sets m_ranges m_nodes m_at m_flags m_fault m_place m_numbered m_depth m_value m_isNot m_least0 m_most0 m_slot m_work m_got m_rowMany m_charAt m_charWide m_trail m_isMatch m_matchGroups m_allFrom m_allBefore m_founds m_pieces m_writtenMany m_templateWide m_tooMuch))) (h94 : cc o G 94 294 (za 4200 K)) (h95 : cc o G 95 295 (za 4200 O)) (h96 : cc o G 96 296 (za 4200 Fi)) (h97 : cc o G 97 297 (za 4200 Be)) (h98 : cc o G 98 298 (za 4200 Le)) (h99 : cc o G 99 299 (za 4200 Mo)) (h100 : cc o G 100 300 (zl 4200 Z)) (h101 : cc o G 101 301 (zb 4200 LZ)) (h90 : cc o G 90 290 (za 2100 SM)) (h89 : cc o G 89 289 (za 2100 SA)) (h91 : cc o G 91 291 (za 24000 RL)) (h92 : cc o G 92 292 (za 24000 RH)) (h118 : cc o G 118 318 (za 75000 T)) (h119 : cc o G 119 319 (za 75000 N)) (h120 : cc o G 120 320 (za 75000 W)) (h121 : cc o G 121 321 (za 75000 CA)) (h122 : cc o G 122 322 (za 75000 CM)) (h123 : cc o G 123 323 (za 3600 CL)) (h124 : cc o G 124 324 (za 3600 CH)) (h117 : cc o G 117 317 (za 6 SN)) (h125 : cc o G 125 325 (za 6 CC)) (h133 : cc o G 133 333 (za 40000 RO)) (h128 : cc o G 128 328 (za 300 WP)) (h129 : cc o G 129 329 (za 300 WD)) (h130 : cc o G 130 330 (za 300 WT)) (h131 : cc o G 131 331 (za 300 WG)) (h132 : cc o G 132 332 (za 300 WS)) (n18 : ab_n0 = 18) (csl : 0 ≤ m_slot ∧ m_slot ≤ 5) (jrl : rgs RL 24000 0 1114111) (jrh : rgs RH 24000 0 1114111) (jk : rgs K 4200 0 7) (jo : rgs O 4200 (-1) 3000) (jfi : rgs Fi 4200 (-1) 4199) (jbe : rgs Be 4200 (-1) 4199) (jle : rgs Le 4200 0 1000) (jmo : rgs Mo 4200 (-1) 1000) (jz : rgs Z 4200 (-1) 1000000000000) (jlz : rgs LZ 4200 0 1) (jsm : rgs SM 2100 0 24000) (jsa : rgs SA 2100 0 24000) (gt : rgs T 75000 0 6) (gn : rgs N 75000 (-1) 12499) (gw : rgs W 75000 (-1) 12499) (gca : rgs CA 75000 0 3600) (gcm : rgs CM 75000 0 24000) (gcl : rgs CL 3600 0 1114111) (gch : rgs CH 3600 0 1114111) (gsn : rgs SN 6 0 12500) (gcc : rgs CC 6 0 600) (gro : rgs RO 40000 0 12499) (gwp : rgs WP 300 0 4199) (gwd : rgs WD 300 0 31) (gwt : rgs WT 300 0 39968) (gwg : rgs WG 300 0 39968) (gws : rgs WS 300 0 4300) (jka : tka T W CA CM SM SA RL RH CL CH (12500 * m_slot) (SN m_slot) m_slot (CC m_slot) ns) (jss : sas SA SM ns) (cst : 0 ≤ m_rowMany ∧ m_rowMany ≤ 1250 ∧ 0 ≤ (SN m_slot) ∧ (SN m_slot) ≤ 12500 ∧ 0 ≤ ns ∧ ns ≤ 2100) (cw : 0 ≤ w ∧ m_work = w + 1 ∧ w < 299) (cx : 0 ≤ WP w ∧ WP w < nd ∧ 0 ≤ nd ∧ nd ≤ 4200 ∧ 0 ≤ WD w ∧ WD w ≤ 31 ∧ 0 ≤ WT w ∧ WT w + 32 ≤ 32 * m_rowMany) (ck : K (WP w) = 6) (cfi : 0 ≤ Fi (WP w) ∧ Fi (WP w) < nd) (cof : 0 ≤ O (WP w) ∧ O (WP w) ≤ 9) (cs0 : WS w = 0) (cnum : 0 < O (WP w)) (jto : rokk RO (WT w) (WD w + 1) (SN m_slot)) (crs : m_rowMany ≤ 1249 ∧ (SN m_slot) + WD w + 1 ≤ 12500) (hd : 4 ≤ d) : ab_F X d y_MO_goGroup (.code y_MO_goGroup b_MO_goGroup 4 none) [vR 80, vz w] G (fun oc G2 => ∃ c2 : Int, ∃ t2 : Int, ∃ u2 : Int, ∃ WP2 : Int → Int, ∃ WD2 : Int → Int, ∃ WT2 : Int → Int, ∃ WG2 : Int → Int, ∃ WS2 : Int → Int, ∃ RO2 : Int → Int, ∃ T2 : Int → Int, ∃ N2 : Int → Int, ∃ W2 : Int → Int, ∃ SN2 : Int → Int, oc = .returned none ∧ fx o o [280, 328, 329, 330, 331, 332, 333, 318, 319, 320, 317] G G2 ∧ G2.length = G.length ∧ ab_slots G2 = ab_slots G ∧ cc o G2 80 280 (ab_ob 12 (mof m_thrown m_taped m_length m_out m_wide m_gathered m_sets m_ranges m_nodes m_at m_flags m_fault m_place m_numbered m_depth m_value m_isNot m_least0 m_most0 m_slot (m_work + 1) m_got (m_rowMany + 1) m_charAt m_charWide m_trail m_isMatch m_matchGroups m_allFrom m_allBefore m_founds m_pieces m_writtenMany m_templateWide m_tooMuch)) ∧ cc o G2 128 328 (za 300 WP2) ∧ cc o G2 129 329 (za 300 WD2) ∧ cc o G2 130 330 (za 300 WT2) ∧ cc o G2 131 331 (za 300 WG2) ∧ cc o G2 132 332 (za 300 WS2) ∧ cc o G2 133 333 (za 40000 RO2) ∧ cc o G2 118 318 (za 75000 T2) ∧ cc o G2 119 319 (za 75000 N2) ∧ cc o G2 120 320 (za 75000 W2) ∧ cc o G2 117 317 (za 6 SN2) ∧ (rgs WP2 300 0 4199) ∧ (rgs WD2 300 0 31) ∧ (rgs WT2 300 0 39968) ∧ (rgs WG2 300 0 39968) ∧ (rgs WS2 300 0 4300) ∧ (fsm WP WD WT WG WS WP2 WD2 WT2 WG2 WS2 w) ∧ (WP2 m_work = c2) ∧ (WD2 m_work = WD w) ∧ (WT2 m_work = t2) ∧ (WG2 m_work = t2) ∧ (WS2 m_work = 0) ∧ (WP2 w = WP w) ∧ (WD2 w = WD w) ∧ (WT2 w = WT w) ∧ (WG2 w = u2) ∧ (WS2 w = 1) ∧ (c2 = Fi (WP w)) ∧ (t2 = (32 * m_rowMany)) ∧ (rgs RO2 40000 0 12499) ∧ (rgs T2 75000 0 6) ∧ (rgs N2 75000 (-1) 12499) ∧ (rgs W2 75000 (-1) 12499) ∧ (rgs SN2 6 0 12500) ∧ ((SN m_slot) ≤ SN2 m_slot ∧ SN2 m_slot ≤ (SN m_slot) + WD w + 1) ∧ (rsm RO RO2 (32 * m_rowMany)) ∧ (sgn T2 N2 W2 (12500 * m_slot) (SN m_slot) (SN2 m_slot)) ∧ (stx T N W CA CM T2 N2 W2 CA CM (12500 * m_slot) (SN m_slot)) ∧ (sno SN SN2 m_slot) ∧ (tka T2 W2 CA CM SM SA RL RH CL CH (12500 * m_slot) (SN2 m_slot) m_slot (CC m_slot) ns) ∧ (rokk RO2 (32 * m_rowMany) (WD w + 1) (SN2 m_slot)) ∧ (rE T2 N2 W2 RO2 m_slot (SN m_slot) (SN2 m_slot) (32 * m_rowMany) (WD w + 1) 4 (fun i => RO (WT w + i)) (fun _ => 2 * O (WP w) + 1))) := by
  refine ab_F_of (by decide +kernel) (Nat.le_of_ble_eq_true rfl) ?_
  obtain ⟨Q, hQ⟩ : ∃ z : Outcome → ab_G → Prop, z = (fun oc G2 => ∃ c2 : Int, ∃ t2 : Int, ∃ u2 : Int, ∃ WP2 : Int → Int, ∃ WD2 : Int → Int, ∃ WT2 : Int → Int, ∃ WG2 : Int → Int, ∃ WS2 : Int → Int, ∃ RO2 : Int → Int, ∃ T2 : Int → Int, ∃ N2 : Int → Int, ∃ W2 : Int → Int, ∃ SN2 : Int → Int, oc = .returned none ∧ fx o o [280, 328, 329, 330, 331, 332, 333, 318, 319, 320, 317] G G2 ∧ G2.length = G.length ∧ ab_slots G2 = ab_slots G ∧ cc o G2 80 280 (ab_ob 12 (mof m_thrown m_taped m_length m_out m_wide m_gathered m_sets m_ranges m_nodes m_at m_flags m_fault m_place m_numbered m_depth m_value m_isNot m_least0 m_most0 m_slot (m_work + 1) m_got (m_rowMany + 1) m_charAt m_charWide m_trail m_isMatch m_matchGroups m_allFrom m_allBefore m_founds m_pieces m_writtenMany m_templateWide m_tooMuch)) ∧ cc o G2 128 328 (za 300 WP2) ∧ cc o G2 129 329 (za 300 WD2) ∧ cc o G2 130 330 (za 300 WT2) ∧ cc o G2 131 331 (za 300 WG2) ∧ cc o G2 132 332 (za 300 WS2) ∧ cc o G2 133 333 (za 40000 RO2) ∧ cc o G2 118 318 (za 75000 T2) ∧ cc o G2 119 319 (za 75000 N2) ∧ cc o G2 120 320 (za 75000 W2) ∧ cc o G2 117 317 (za 6 SN2) ∧ (rgs WP2 300 0 4199) ∧ (rgs WD2 300 0 31) ∧ (rgs WT2 300 0 39968) ∧ (rgs WG2 300 0 39968) ∧ (rgs WS2 300 0 4300) ∧ (fsm WP WD WT WG WS WP2 WD2 WT2 WG2 WS2 w) ∧ (WP2 m_work = c2) ∧ (WD2 m_work = WD w) ∧ (WT2 m_work = t2) ∧ (WG2 m_work = t2) ∧ (WS2 m_work = 0) ∧ (WP2 w = WP w) ∧ (WD2 w = WD w) ∧ (WT2 w = WT w) ∧ (WG2 w = u2) ∧ (WS2 w = 1) ∧ (c2 = Fi (WP w)) ∧ (t2 = (32 * m_rowMany)) ∧ (rgs RO2 40000 0 12499) ∧ (rgs T2 75000 0 6) ∧ (rgs N2 75000 (-1) 12499) ∧ (rgs W2 75000 (-1) 12499) ∧ (rgs SN2 6 0 12500) ∧ ((SN m_slot) ≤ SN2 m_slot ∧ SN2 m_slot ≤ (SN m_slot) + WD w + 1) ∧ (rsm RO RO2 (32 * m_rowMany)) ∧ (sgn T2 N2 W2 (12500 * m_slot) (SN m_slot) (SN2 m_slot)) ∧ (stx T N W CA CM T2 N2 W2 CA CM (12500 * m_slot) (SN m_slot)) ∧ (sno SN SN2 m_slot) ∧ (tka T2 W2 CA CM SM SA RL RH CL CH (12500 * m_slot) (SN2 m_slot) m_slot (CC m_slot) ns) ∧ (rokk RO2 (32 * m_rowMany) (WD w + 1) (SN2 m_slot)) ∧ (rE T2 N2 W2 RO2 m_slot (SN m_slot) (SN2 m_slot) (32 * m_rowMany) (WD w + 1) 4 (fun i => RO (WT w + i)) (fun _ => 2 * O (WP w) + 1))) := ⟨_, rfl⟩
  rw [← hQ]
  change ab_W X (ab_pl y_MO_goGroup b_MO_goGroup 4 none) d G 0 [some (vR 80), some (vz w), none, none] [] Q
  have hfr : fx o o [280, 328, 329, 330, 331, 332, 333, 318, 319, 320, 317] G G := fx.rf
  have hlen : G.length = G.length := rfl
  have hsl : ab_slots G = ab_slots G := rfl
  refine ab_aload_n d_MO_goGroup_0 rfl ?_
  refine ab_getf (fs := mof m_thrown m_taped m_length m_out m_wide m_gathered m_sets m_ranges m_nodes m_at m_flags m_fault m_place m_numbered m_depth m_value m_isNot m_least0 m_most0 m_slot m_work m_got m_rowMany m_charAt m_charWide m_trail m_isMatch m_matchGroups m_allFrom m_allBefore m_founds m_pieces m_writtenMany m_templateWide m_tooMuch) f_MO_158 d_MO_goGroup_1 h80.2.2 rfl ?_
  refine ab_iload_n d_MO_goGroup_4 rfl ?_
  refine zz_iald d_MO_goGroup_5 h128 (by omega) ?_
  have hq1 := gwp w (by omega) (by omega)
  refine ab_istore_n d_MO_goGroup_6 (Nat.le_of_ble_eq_true rfl) (Nat.le_of_ble_eq_true rfl) rfl ?_
  change ab_W _ _ _ G 7 [some (vR 80), some (vz w), some (vz (WP w)), none] [] _
  refine ab_aload_n d_MO_goGroup_7 rfl ?_
  refine ab_getf (fs := mof m_thrown m_taped m_length m_out m_wide m_gathered m_sets m_ranges m_nodes m_at m_flags m_fault m_place m_numbered m_depth m_value m_isNot m_least0 m_most0 m_slot m_work m_got m_rowMany m_charAt m_charWide m_trail m_isMatch m_matchGroups m_allFrom m_allBefore m_founds m_pieces m_writtenMany m_templateWide m_tooMuch) f_MO_53 d_MO_goGroup_8 h80.2.2 rfl ?_
  refine ab_iload_n d_MO_goGroup_11 rfl ?_
  refine zz_iald d_MO_goGroup_12 h95 (by omega) ?_
  have hq2 := jo (WP w) (by omega) (by omega)
  refine ab_istore_n d_MO_goGroup_13 (Nat.le_of_ble_eq_true rfl) (Nat.le_of_ble_eq_true rfl) rfl ?_
  change ab_W _ _ _ G 14 [some (vR 80), some (vz w), some (vz (WP w)), some (vz (O (WP w)))] [] _
  refine ab_aload_n d_MO_goGroup_14 rfl ?_
  refine ab_getf (fs := mof m_thrown m_taped m_length m_out m_wide m_gathered m_sets m_ranges m_nodes m_at m_flags m_fault m_place m_numbered m_depth m_value m_isNot m_least0 m_most0 m_slot m_work m_got m_rowMany m_charAt m_charWide m_trail m_isMatch m_matchGroups m_allFrom m_allBefore m_founds m_pieces m_writtenMany m_templateWide m_tooMuch) f_MO_170 d_MO_goGroup_15 h80.2.2 rfl ?_
  refine ab_iload_n d_MO_goGroup_18 rfl ?_
  refine zz_iald d_MO_goGroup_19 h132 (by omega) ?_
  have hq3 := gws w (by omega) (by omega)
  refine zz_if_ne (tgt := 82) d_MO_goGroup_20 (by decide) (by omega) (fun c4 => absurd c4 (by omega)) (fun c4 => ?_)
  refine ab_aload_n d_MO_goGroup_23 rfl ?_
  refine ab_getf (fs := mof m_thrown m_taped m_length m_out m_wide m_gathered m_sets m_ranges m_nodes m_at m_flags m_fault m_place m_numbered m_depth m_value m_isNot m_least0 m_most0 m_slot m_work m_got m_rowMany m_charAt m_charWide m_trail m_isMatch m_matchGroups m_allFrom m_allBefore m_founds m_pieces m_writtenMany m_templateWide m_tooMuch) f_MO_170 d_MO_goGroup_24 h80.2.2 rfl ?_
  refine ab_iload_n d_MO_goGroup_27 rfl ?_
  refine zz_iconst d_MO_goGroup_28 ?_
  refine zz_iast d_MO_goGroup_29 h132 (by omega) (h132.2.1 (by decide)) ?_
  obtain ⟨G5, eG5⟩ : ∃ z : ab_G, z = List.set G 132 (za 300 (zu WS w 1)) := ⟨_, rfl⟩
  have h80 := h80.keep h132 eG5 (by decide)
  have h94 := h94.keep h132 eG5 (by decide)
  have h95 := h95.keep h132 eG5 (by decide)
  have h96 := h96.keep h132 eG5 (by decide)
  have h97 := h97.keep h132 eG5 (by decide)
  have h98 := h98.keep h132 eG5 (by decide)
  have h99 := h99.keep h132 eG5 (by decide)
  have h100 := h100.keep h132 eG5 (by decide)
  have h101 := h101.keep h132 eG5 (by decide)
  have h90 := h90.keep h132 eG5 (by decide)
  have h89 := h89.keep h132 eG5 (by decide)
  have h91 := h91.keep h132 eG5 (by decide)
  have h92 := h92.keep h132 eG5 (by decide)
  have h118 := h118.keep h132 eG5 (by decide)
  have h119 := h119.keep h132 eG5 (by decide)
  have h120 := h120.keep h132 eG5 (by decide)
  have h121 := h121.keep h132 eG5 (by decide)
  have h122 := h122.keep h132 eG5 (by decide)
  have h123 := h123.keep h132 eG5 (by decide)
  have h124 := h124.keep h132 eG5 (by decide)
  have h117 := h117.keep h132 eG5 (by decide)
  have h125 := h125.keep h132 eG5 (by decide)
  have h133 := h133.keep h132 eG5 (by decide)
  have h128 := h128.keep h132 eG5 (by decide)
  have h129 := h129.keep h132 eG5 (by decide)
  have h130 := h130.keep h132 eG5 (by decide)
  have h131 := h131.keep h132 eG5 (by decide)
  have hlen := (z_len eG5).trans hlen
  have hsl := (z_sl h132 eG5 rfl).trans hsl
  have hfr := hfr.wr h132 eG5 (by decide)
  have h132 := h132.kept eG5
  change ab_W _ _ _ (List.set G 132 (za 300 (zu WS w 1))) 30 [some (vR 80), some (vz w), some (vz (WP w)), some (vz (O (WP w)))] [] _
  rw [← eG5]
  refine ab_aload_n d_MO_goGroup_30 rfl ?_
  refine ab_aload_n d_MO_goGroup_31 rfl ?_
  refine ab_getf (fs := mof m_thrown m_taped m_length m_out m_wide m_gathered m_sets m_ranges m_nodes m_at m_flags m_fault m_place m_numbered m_depth m_value m_isNot m_least0 m_most0 m_slot m_work m_got m_rowMany m_charAt m_charWide m_trail m_isMatch m_matchGroups m_allFrom m_allBefore m_founds m_pieces m_writtenMany m_templateWide m_tooMuch) f_MO_56 d_MO_goGroup_32 h80.2.2 rfl ?_
  refine ab_iload_n d_MO_goGroup_35 rfl ?_
  refine zz_iald d_MO_goGroup_36 h96 (by omega) ?_
  have hq6 := jfi (WP w) (by omega) (by omega)
  refine ab_aload_n d_MO_goGroup_37 rfl ?_
  refine ab_getf (fs := mof m_thrown m_taped m_length m_out m_wide m_gathered m_sets m_ranges m_nodes m_at m_flags m_fault m_place m_numbered m_depth m_value m_isNot m_least0 m_most0 m_slot m_work m_got m_rowMany m_charAt m_charWide m_trail m_isMatch m_matchGroups m_allFrom m_allBefore m_founds m_pieces m_writtenMany m_templateWide m_tooMuch) f_MO_161 d_MO_goGroup_38 h80.2.2 rfl ?_
  refine ab_iload_n d_MO_goGroup_41 rfl ?_
  refine zz_iald d_MO_goGroup_42 h129 (by omega) ?_
  have hq7 := gwd w (by omega) (by omega)
  refine ab_iload_n d_MO_goGroup_43 rfl ?_
  refine zz_if_le (tgt := 72) d_MO_goGroup_44 (by decide) (by omega) (fun c8 => absurd c8 (by omega)) (fun c8 => ?_)
  refine ab_aload_n d_MO_goGroup_47 rfl ?_
  refine zz_iconst d_MO_goGroup_48 ?_
  refine ab_aload_n d_MO_goGroup_49 rfl ?_
  refine ab_getf (fs := mof m_thrown m_taped m_length m_out m_wide m_gathered m_sets m_ranges m_nodes m_at m_flags m_fault m_place m_numbered m_depth m_value m_isNot m_least0 m_most0 m_slot m_work m_got m_rowMany m_charAt m_charWide m_trail m_isMatch m_matchGroups m_allFrom m_allBefore m_founds m_pieces m_writtenMany m_templateWide m_tooMuch) f_MO_164 d_MO_goGroup_50 h80.2.2 rfl ?_
  refine ab_iload_n d_MO_goGroup_53 rfl ?_
  refine zz_iald d_MO_goGroup_54 h130 (by omega) ?_
  have hq9 := gwt w (by omega) (by omega)
  refine zz_iconst d_MO_goGroup_55 ?_
  refine ab_iload_n d_MO_goGroup_56 rfl ?_
  refine zz_imul d_MO_goGroup_57 ?_
  refine zz_iconst d_MO_goGroup_58 ?_
  refine zz_iadd d_MO_goGroup_59 ?_
  refine ab_aload_n d_MO_goGroup_60 rfl ?_
  refine ab_getf (fs := mof m_thrown m_taped m_length m_out m_wide m_gathered m_sets m_ranges m_nodes m_at m_flags m_fault m_place m_numbered m_depth m_value m_isNot m_least0 m_most0 m_slot m_work m_got m_rowMany m_charAt m_charWide m_trail m_isMatch m_matchGroups m_allFrom m_allBefore m_founds m_pieces m_writtenMany m_templateWide m_tooMuch) f_MO_161 d_MO_goGroup_61 h80.2.2 rfl ?_
  refine ab_iload_n d_MO_goGroup_64 rfl ?_
  refine zz_iald d_MO_goGroup_65 h129 (by omega) ?_
  have hq10 := gwd w (by omega) (by omega)
  refine ab_callV (d' := d - 1) (as := [vz 4, vz (WT w), vz ((2 * (O (WP w))) + 1), vz (WD w)]) (st := [vz (WD w), vz (Fi (WP w)), vR 80]) (r := _) (z_MO_each (o := o) (m_thrown := m_thrown) (m_taped := m_taped) (m_length := m_length) (m_out := m_out) (m_wide := m_wide) (m_gathered := m_gathered) (m_sets := m_sets) (m_ranges := m_ranges) (m_nodes := m_nodes) (m_at := m_at) (m_flags := m_flags) (m_fault := m_fault) (m_place := m_place) (m_numbered := m_numbered) (m_depth := m_depth) (m_value := m_value) (m_isNot := m_isNot) (m_least0 := m_least0) (m_most0 := m_most0) (m_slot := m_slot) (m_work := m_work) (m_got := m_got) (m_rowMany := m_rowMany) (m_charAt := m_charAt) (m_charWide := m_charWide) (m_trail := m_trail) (m_isMatch := m_isMatch) (m_matchGroups := m_matchGroups) (m_allFrom := m_allFrom) (m_allBefore := m_allBefore) (m_founds := m_founds) (m_pieces := m_pieces) (m_writtenMany := m_writtenMany) (m_templateWide := m_templateWide) (m_tooMuch := m_tooMuch) (T := T) (N := N) (W := W) (CA := CA) (CM := CM) (CL := CL) (CH := CH) (SN := SN) (RO := RO) (SM := SM) (SA := SA) (RL := RL) (RH := RH) (k := 4) (to := (WT w)) (be := ((2 * (O (WP w))) + 1)) (dp := (WD w)) (ns := ns) (cl := (CC m_slot)) h80 h133 h118 h119 h120 h117 (by omega) (by omega) (by omega) gro gt gn gw gsn (by omega) (by left; omega) jto jka (by omega)) (fun oc G2 h => by rcases h with ⟨_, _, _, _, _, h, _⟩ <;> exact ⟨_, h⟩) (by omega) m_MO_each ml_MO_470 im_MO_each se_MO_each c_MO h80.2.2 (Nat.le_of_ble_eq_true rfl) d_MO_goGroup_66 rfl ?_
  intro v G11 hq
  rcases hq with ⟨RO212, T213, N214, W215, SN216, hv, hfk, hlk, hsk, hN80, hN133, hN118, hN119, hN120, hN117, hq17, hq18, hq19, hq20, hq21, hq22, hq23, hq24, hq25, hq26, hq27, hq28, hq29⟩
  cases hv
  have h94 := hfk.get h94 (by decide)
  have h95 := hfk.get h95 (by decide)
  have h96 := hfk.get h96 (by decide)
  have h97 := hfk.get h97 (by decide)
  have h98 := hfk.get h98 (by decide)
  have h99 := hfk.get h99 (by decide)
  have h100 := hfk.get h100 (by decide)
  have h101 := hfk.get h101 (by decide)
  have h90 := hfk.get h90 (by decide)
  have h89 := hfk.get h89 (by decide)
  have h91 := hfk.get h91 (by decide)
  have h92 := hfk.get h92 (by decide)
  have h121 := hfk.get h121 (by decide)
  have h122 := hfk.get h122 (by decide)
  have h123 := hfk.get h123 (by decide)
  have h124 := hfk.get h124 (by decide)
  have h125 := hfk.get h125 (by decide)
  have h128 := hfk.get h128 (by decide)
  have h129 := hfk.get h129 (by decide)
  have h130 := hfk.get h130 (by decide)
  have h131 := hfk.get h131 (by decide)
  have h132 := hfk.get h132 (by decide)
  have hfr := hfr.tr hfk (by decide)
  have hlen := hlk.trans hlen
  have hsl := hsk.trans hsl
  have h80 := hN80
  have h133 := hN133
  have h118 := hN118
  have h119 := hN119
  have h120 := hN120
  have h117 := hN117
  change ab_W _ _ _ G11 69 [some (vR 80), some (vz w), some (vz (WP w)), some (vz (O (WP w)))] [vz (32 * m_rowMany), vz (WD w), vz (Fi (WP w)), vR 80] _
  refine ab_goto (tgt := 78) d_MO_goGroup_69 (by decide) ?_
  refine ab_callV (d' := d - 1) (as := [vz (Fi (WP w)), vz (WD w), vz (32 * m_rowMany)]) (st := []) (r := _) (z_MO_open (o := o) (m_thrown := m_thrown) (m_taped := m_taped) (m_length := m_length) (m_out := m_out) (m_wide := m_wide) (m_gathered := m_gathered) (m_sets := m_sets) (m_ranges := m_ranges) (m_nodes := m_nodes) (m_at := m_at) (m_flags := m_flags) (m_fault := m_fault) (m_place := m_place) (m_numbered := m_numbered) (m_depth := m_depth) (m_value := m_value) (m_isNot := m_isNot) (m_least0 := m_least0) (m_most0 := m_most0) (m_slot := m_slot) (m_work := m_work) (m_got := m_got) (m_rowMany := (m_rowMany + 1)) (m_charAt := m_charAt) (m_charWide := m_charWide) (m_trail := m_trail) (m_isMatch := m_isMatch) (m_matchGroups := m_matchGroups) (m_allFrom := m_allFrom) (m_allBefore := m_allBefore) (m_founds := m_founds) (m_pieces := m_pieces) (m_writtenMany := m_writtenMany) (m_templateWide := m_templateWide) (m_tooMuch := m_tooMuch) (WP := WP) (WD := WD) (WT := WT) (WG := WG) (WS := (zu WS w 1)) (to := (32 * m_rowMany)) (x := (Fi (WP w))) (y := (WD w)) h80 h128 h129 h130 h131 h132 (by omega) (by omega)) (fun oc G2 h => by rcases h with ⟨h, _⟩ <;> exact ⟨_, h⟩) (by omega) m_MO_open ml_MO_464 im_MO_open se_MO_open c_MO h80.2.2 (Nat.le_of_ble_eq_true rfl) d_MO_goGroup_78 rfl ?_
  intro v G30 hq
  rcases hq with ⟨hv, hfk, hlk, hsk, hN80, hN128, hN129, hN130, hN131, hN132⟩
  cases hv
  have h94 := hfk.get h94 (by decide)
  have h95 := hfk.get h95 (by decide)
  have h96 := hfk.get h96 (by decide)
  have h97 := hfk.get h97 (by decide)
  have h98 := hfk.get h98 (by decide)
  have h99 := hfk.get h99 (by decide)
  have h100 := hfk.get h100 (by decide)
  have h101 := hfk.get h101 (by decide)
  have h90 := hfk.get h90 (by decide)
  have h89 := hfk.get h89 (by decide)
  have h91 := hfk.get h91 (by decide)
  have h92 := hfk.get h92 (by decide)
  have h118 := hfk.get h118 (by decide)
  have h119 := hfk.get h119 (by decide)
  have h120 := hfk.get h120 (by decide)
  have h121 := hfk.get h121 (by decide)
  have h122 := hfk.get h122 (by decide)
  have h123 := hfk.get h123 (by decide)
  have h124 := hfk.get h124 (by decide)
  have h117 := hfk.get h117 (by decide)
  have h125 := hfk.get h125 (by decide)
  have h133 := hfk.get h133 (by decide)
  have hfr := hfr.tr hfk (by decide)
  have hlen := hlk.trans hlen
  have hsl := hsk.trans hsl
  have h80 := hN80
  have h128 := hN128
  have h129 := hN129
  have h130 := hN130
  have h131 := hN131
  have h132 := hN132
  change ab_W _ _ _ G30 81 [some (vR 80), some (vz w), some (vz (WP w)), some (vz (O (WP w)))] [] _
  refine ab_vret rfl d_MO_goGroup_81 ?_
  rw [hQ]; exact ⟨_, _, (WG w), _, _, _, _, _, _, _, _, _, _, rfl, hfr, hlen, hsl, h80, h128, h129, h130, h131, h132, h133, h118, h119, h120, h117, (by first | exact (rgs_zu gwp (by omega)) | exact rgs_w (rgs_zu gwp (by omega)) (by omega)), (by first | exact (rgs_zu gwd (by omega)) | exact rgs_w (rgs_zu gwd (by omega)) (by omega)), (by first | exact (rgs_zu gwt (by omega)) | exact rgs_w (rgs_zu gwt (by omega)) (by omega)), (by first | exact (rgs_zu gwg (by omega)) | exact rgs_w (rgs_zu gwg (by omega)) (by omega)), (by first | exact (rgs_zu (rgs_zu gws (by omega)) (by omega)) | exact rgs_w (rgs_zu (rgs_zu gws (by omega)) (by omega)) (by omega)), (by exact fun j_ a_ => ⟨by rw [zu_ne (by omega)], by rw [zu_ne (by omega)], by rw [zu_ne (by omega)], by rw [zu_ne (by omega)], by rw [zu_ne (by omega), zu_ne (by omega)]⟩), (by rw [zu_self]), (by rw [zu_self]), (by rw [zu_self]), (by rw [zu_self]), (by rw [zu_self]), (by rw [zu_ne (show w ≠ m_work by omega)]), (by rw [zu_ne (show w ≠ m_work by omega)]), (by rw [zu_ne (show w ≠ m_work by omega)]), (by rw [zu_ne (show w ≠ m_work by omega)]), (by rw [zu_ne (show w ≠ m_work by omega), zu_self] <;> omega), (by first | rfl | (rw [zu_self]; done) | omega), (by first | rfl | (rw [zu_self]; done) | omega), (by first | exact hq17 | exact rgs_w hq17 (by omega)), (by first | exact hq18 | exact rgs_w hq18 (by omega)), (by first | exact hq19 | exact rgs_w hq19 (by omega)), (by first | exact hq20 | exact rgs_w hq20 (by omega)), (by first | exact hq21 | exact rgs_w hq21 (by omega)), (by omega), (by exact hq24), (by exact hq25), (by exact hq26), (by exact hq27), (by exact hq28), (by exact hq23), (by exact hq29)⟩
set_option maxRecDepth 100000 in
set_option maxHeartbeats 4000000 in
theorem z_MO_goGroup_0z {X : ab_X} {d : Nat} {o : Nat → Nat} {G : ab_G} {m_thrown : Int} {m_taped : Int} {m_length : Int} {m_out : Int} {m_wide : Int} {m_gathered : Int} {m_sets : Int} {m_ranges : Int} {m_nodes : Int} {m_at : Int} {m_flags : Int} {m_fault : Int} {m_place : Int} {m_numbered : Int} {m_depth : Int} {m_value : Int} {m_isNot : Int} {m_least0 : Int} {m_most0 : Int} {m_slot : Int} {m_work : Int} {m_got : Int} {m_rowMany : Int} {m_charAt : Int} {m_charWide : Int} {m_trail : Int} {m_isMatch : Int} {m_matchGroups : Int} {m_allFrom : Int} {m_allBefore : Int} {m_founds : Int} {m_pieces : Int} {m_writtenMany : Int} {m_templateWide : Int} {m_tooMuch : Int} {T : Int → Int} {N : Int → Int} {W : Int → Int} {CA : Int → Int} {CM : Int → Int} {CL : Int → Int} {CH : Int → Int} {SN : Int → Int} {CC : Int → Int} {RO : Int → Int} {WP : Int → Int} {WD : Int → Int} {WT : Int → Int} {WG : Int → Int} {WS : Int → Int} {K : Int → Int} {O : Int → Int} {Fi : Int → Int} {Be : Int → Int} {Le : Int → Int} {Mo : Int → Int} {Z : Int → Int} {LZ : Int → Int} {SM : Int → Int} {SA : Int → Int} {RL : Int → Int} {RH : Int → Int} {w : Int} {ns : Int} {nd : Int} (h80 : cc o G 80 280 (ab_ob 12 (mof m_thrown m_taped m_length m_out m_wide m_gathered m_sets m_ranges m_nodes m_at m_flags m_fault m_place m_numbered m_depth m_value m_isNot m_least0 m_most0 m_slot m_work m_got m_rowMany m_charAt m_charWide m_trail m_isMatch m_matchGroups m_allFrom m_allBefore m_founds m_pieces m_writtenMany m_templateWide m_tooMuch))) (h94 : cc o G 94 294 (za 4200 K)) (h95 : cc o G 95 295 (za 4200 O)) (h96 : cc o G 96 296 (za 4200 Fi)) (h97 : cc o G 97 297 (za 4200 Be)) (h98 : cc o G 98 298 (za 4200 Le)) (h99 : cc o G 99 299 (za 4200 Mo)) (h100 : cc o G 100 300 (zl 4200 Z)) (h101 : cc o G 101 301 (zb 4200 LZ)) (h90 : cc o G 90 290 (za 2100 SM)) (h89 : cc o G 89 289 (za 2100 SA)) (h91 : cc o G 91 291 (za 24000 RL)) (h92 : cc o G 92 292 (za 24000 RH)) (h118 : cc o G 118 318 (za 75000 T)) (h119 : cc o G 119 319 (za 75000 N)) (h120 : cc o G 120 320 (za 75000 W)) (h121 : cc o G 121 321 (za 75000 CA)) (h122 : cc o G 122 322 (za 75000 CM)) (h123 : cc o G 123 323 (za 3600 CL)) (h124 : cc o G 124 324 (za 3600 CH)) (h117 : cc o G 117 317 (za 6 SN)) (h125 : cc o G 125 325 (za 6 CC)) (h133 : cc o G 133 333 (za 40000 RO)) (h128 : cc o G 128 328 (za 300 WP)) (h129 : cc o G 129 329 (za 300 WD)) (h130 : cc o G 130 330 (za 300 WT)) (h131 : cc o G 131 331 (za 300 WG)) (h132 : cc o G 132 332 (za 300 WS)) (n18 : ab_n0 = 18) (csl : 0 ≤ m_slot ∧ m_slot ≤ 5) (jrl : rgs RL 24000 0 1114111) (jrh : rgs RH 24000 0 1114111) (jk : rgs K 4200 0 7) (jo : rgs O 4200 (-1) 3000) (jfi : rgs Fi 4200 (-1) 4199) (jbe : rgs Be 4200 (-1) 4199) (jle : rgs Le 4200 0 1000) (jmo : rgs Mo 4200 (-1) 1000) (jz : rgs Z 4200 (-1) 1000000000000) (jlz : rgs LZ 4200 0 1) (jsm : rgs SM 2100 0 24000) (jsa : rgs SA 2100 0 24000) (gt : rgs T 75000 0 6) (gn : rgs N 75000 (-1) 12499) (gw : rgs W 75000 (-1) 12499) (gca : rgs CA 75000 0 3600) (gcm : rgs CM 75000 0 24000) (gcl : rgs CL 3600 0 1114111) (gch : rgs CH 3600 0 1114111) (gsn : rgs SN 6 0 12500) (gcc : rgs CC 6 0 600) (gro : rgs RO 40000 0 12499) (gwp : rgs WP 300 0 4199) (gwd : rgs WD 300 0 31) (gwt : rgs WT 300 0 39968) (gwg : rgs WG 300 0 39968) (gws : rgs WS 300 0 4300) (jka : tka T W CA CM SM SA RL RH CL CH (12500 * m_slot) (SN m_slot) m_slot (CC m_slot) ns) (jss : sas SA SM ns) (cst : 0 ≤ m_rowMany ∧ m_rowMany ≤ 1250 ∧ 0 ≤ (SN m_slot) ∧ (SN m_slot) ≤ 12500 ∧ 0 ≤ ns ∧ ns ≤ 2100) (cw : 0 ≤ w ∧ m_work = w + 1 ∧ w < 299) (cx : 0 ≤ WP w ∧ WP w < nd ∧ 0 ≤ nd ∧ nd ≤ 4200 ∧ 0 ≤ WD w ∧ WD w ≤ 31 ∧ 0 ≤ WT w ∧ WT w + 32 ≤ 32 * m_rowMany) (ck : K (WP w) = 6) (cfi : 0 ≤ Fi (WP w) ∧ Fi (WP w) < nd) (cof : 0 ≤ O (WP w) ∧ O (WP w) ≤ 9) (cs0 : WS w = 0) (cnum : O (WP w) = 0) (hd : 4 ≤ d) : ab_F X d y_MO_goGroup (.code y_MO_goGroup b_MO_goGroup 4 none) [vR 80, vz w] G (fun oc G2 => ∃ c2 : Int, ∃ t2 : Int, ∃ u2 : Int, ∃ WP2 : Int → Int, ∃ WD2 : Int → Int, ∃ WT2 : Int → Int, ∃ WG2 : Int → Int, ∃ WS2 : Int → Int, oc = .returned none ∧ fx o o [280, 328, 329, 330, 331, 332] G G2 ∧ G2.length = G.length ∧ ab_slots G2 = ab_slots G ∧ cc o G2 80 280 (ab_ob 12 (mof m_thrown m_taped m_length m_out m_wide m_gathered m_sets m_ranges m_nodes m_at m_flags m_fault m_place m_numbered m_depth m_value m_isNot m_least0 m_most0 m_slot (m_work + 1) m_got m_rowMany m_charAt m_charWide m_trail m_isMatch m_matchGroups m_allFrom m_allBefore m_founds m_pieces m_writtenMany m_templateWide m_tooMuch)) ∧ cc o G2 128 328 (za 300 WP2) ∧ cc o G2 129 329 (za 300 WD2) ∧ cc o G2 130 330 (za 300 WT2) ∧ cc o G2 131 331 (za 300 WG2) ∧ cc o G2 132 332 (za 300 WS2) ∧ (rgs WP2 300 0 4199) ∧ (rgs WD2 300 0 31) ∧ (rgs WT2 300 0 39968) ∧ (rgs WG2 300 0 39968) ∧ (rgs WS2 300 0 4300) ∧ (fsm WP WD WT WG WS WP2 WD2 WT2 WG2 WS2 w) ∧ (WP2 m_work = c2) ∧ (WD2 m_work = WD w) ∧ (WT2 m_work = t2) ∧ (WG2 m_work = t2) ∧ (WS2 m_work = 0) ∧ (WP2 w = WP w) ∧ (WD2 w = WD w) ∧ (WT2 w = WT w) ∧ (WG2 w = u2) ∧ (WS2 w = 1) ∧ (c2 = Fi (WP w)) ∧ (t2 = WT w)) := by
  refine ab_F_of (by decide +kernel) (Nat.le_of_ble_eq_true rfl) ?_
  obtain ⟨Q, hQ⟩ : ∃ z : Outcome → ab_G → Prop, z = (fun oc G2 => ∃ c2 : Int, ∃ t2 : Int, ∃ u2 : Int, ∃ WP2 : Int → Int, ∃ WD2 : Int → Int, ∃ WT2 : Int → Int, ∃ WG2 : Int → Int, ∃ WS2 : Int → Int, oc = .returned none ∧ fx o o [280, 328, 329, 330, 331, 332] G G2 ∧ G2.length = G.length ∧ ab_slots G2 = ab_slots G ∧ cc o G2 80 280 (ab_ob 12 (mof m_thrown m_taped m_length m_out m_wide m_gathered m_sets m_ranges m_nodes m_at m_flags m_fault m_place m_numbered m_depth m_value m_isNot m_least0 m_most0 m_slot (m_work + 1) m_got m_rowMany m_charAt m_charWide m_trail m_isMatch m_matchGroups m_allFrom m_allBefore m_founds m_pieces m_writtenMany m_templateWide m_tooMuch)) ∧ cc o G2 128 328 (za 300 WP2) ∧ cc o G2 129 329 (za 300 WD2) ∧ cc o G2 130 330 (za 300 WT2) ∧ cc o G2 131 331 (za 300 WG2) ∧ cc o G2 132 332 (za 300 WS2) ∧ (rgs WP2 300 0 4199) ∧ (rgs WD2 300 0 31) ∧ (rgs WT2 300 0 39968) ∧ (rgs WG2 300 0 39968) ∧ (rgs WS2 300 0 4300) ∧ (fsm WP WD WT WG WS WP2 WD2 WT2 WG2 WS2 w) ∧ (WP2 m_work = c2) ∧ (WD2 m_work = WD w) ∧ (WT2 m_work = t2) ∧ (WG2 m_work = t2) ∧ (WS2 m_work = 0) ∧ (WP2 w = WP w) ∧ (WD2 w = WD w) ∧ (WT2 w = WT w) ∧ (WG2 w = u2) ∧ (WS2 w = 1) ∧ (c2 = Fi (WP w)) ∧ (t2 = WT w)) := ⟨_, rfl⟩
  rw [← hQ]
  change ab_W X (ab_pl y_MO_goGroup b_MO_goGroup 4 none) d G 0 [some (vR 80), some (vz w), none, none] [] Q
  have hfr : fx o o [280, 328, 329, 330, 331, 332] G G := fx.rf
  have hlen : G.length = G.length := rfl
  have hsl : ab_slots G = ab_slots G := rfl
  refine ab_aload_n d_MO_goGroup_0 rfl ?_
  refine ab_getf (fs := mof m_thrown m_taped m_length m_out m_wide m_gathered m_sets m_ranges m_nodes m_at m_flags m_fault m_place m_numbered m_depth m_value m_isNot m_least0 m_most0 m_slot m_work m_got m_rowMany m_charAt m_charWide m_trail m_isMatch m_matchGroups m_allFrom m_allBefore m_founds m_pieces m_writtenMany m_templateWide m_tooMuch) f_MO_158 d_MO_goGroup_1 h80.2.2 rfl ?_
  refine ab_iload_n d_MO_goGroup_4 rfl ?_
  refine zz_iald d_MO_goGroup_5 h128 (by omega) ?_
  have hq1 := gwp w (by omega) (by omega)
  refine ab_istore_n d_MO_goGroup_6 (Nat.le_of_ble_eq_true rfl) (Nat.le_of_ble_eq_true rfl) rfl ?_
  change ab_W _ _ _ G 7 [some (vR 80), some (vz w), some (vz (WP w)), none] [] _
  refine ab_aload_n d_MO_goGroup_7 rfl ?_
  refine ab_getf (fs := mof m_thrown m_taped m_length m_out m_wide m_gathered m_sets m_ranges m_nodes m_at m_flags m_fault m_place m_numbered m_depth m_value m_isNot m_least0 m_most0 m_slot m_work m_got m_rowMany m_charAt m_charWide m_trail m_isMatch m_matchGroups m_allFrom m_allBefore m_founds m_pieces m_writtenMany m_templateWide m_tooMuch) f_MO_53 d_MO_goGroup_8 h80.2.2 rfl ?_
  refine ab_iload_n d_MO_goGroup_11 rfl ?_
  refine zz_iald d_MO_goGroup_12 h95 (by omega) ?_
  have hq2 := jo (WP w) (by omega) (by omega)
  refine ab_istore_n d_MO_goGroup_13 (Nat.le_of_ble_eq_true rfl) (Nat.le_of_ble_eq_true rfl) rfl ?_
  change ab_W _ _ _ G 14 [some (vR 80), some (vz w), some (vz (WP w)), some (vz (O (WP w)))] [] _
  refine ab_aload_n d_MO_goGroup_14 rfl ?_
  refine ab_getf (fs := mof m_thrown m_taped m_length m_out m_wide m_gathered m_sets m_ranges m_nodes m_at m_flags m_fault m_place m_numbered m_depth m_value m_isNot m_least0 m_most0 m_slot m_work m_got m_rowMany m_charAt m_charWide m_trail m_isMatch m_matchGroups m_allFrom m_allBefore m_founds m_pieces m_writtenMany m_templateWide m_tooMuch) f_MO_170 d_MO_goGroup_15 h80.2.2 rfl ?_
  refine ab_iload_n d_MO_goGroup_18 rfl ?_
  refine zz_iald d_MO_goGroup_19 h132 (by omega) ?_
  have hq3 := gws w (by omega) (by omega)
  refine zz_if_ne (tgt := 82) d_MO_goGroup_20 (by decide) (by omega) (fun c4 => absurd c4 (by omega)) (fun c4 => ?_)
  refine ab_aload_n d_MO_goGroup_23 rfl ?_
  refine ab_getf (fs := mof m_thrown m_taped m_length m_out m_wide m_gathered m_sets m_ranges m_nodes m_at m_flags m_fault m_place m_numbered m_depth m_value m_isNot m_least0 m_most0 m_slot m_work m_got m_rowMany m_charAt m_charWide m_trail m_isMatch m_matchGroups m_allFrom m_allBefore m_founds m_pieces m_writtenMany m_templateWide m_tooMuch) f_MO_170 d_MO_goGroup_24 h80.2.2 rfl ?_
  refine ab_iload_n d_MO_goGroup_27 rfl ?_
  refine zz_iconst d_MO_goGroup_28 ?_
  refine zz_iast d_MO_goGroup_29 h132 (by omega) (h132.2.1 (by decide)) ?_
  obtain ⟨G5, eG5⟩ : ∃ z : ab_G, z = List.set G 132 (za 300 (zu WS w 1)) := ⟨_, rfl⟩
  have h80 := h80.keep h132 eG5 (by decide)
  have h94 := h94.keep h132 eG5 (by decide)
  have h95 := h95.keep h132 eG5 (by decide)
  have h96 := h96.keep h132 eG5 (by decide)
  have h97 := h97.keep h132 eG5 (by decide)
  have h98 := h98.keep h132 eG5 (by decide)
  have h99 := h99.keep h132 eG5 (by decide)
  have h100 := h100.keep h132 eG5 (by decide)
  have h101 := h101.keep h132 eG5 (by decide)
  have h90 := h90.keep h132 eG5 (by decide)
  have h89 := h89.keep h132 eG5 (by decide)
  have h91 := h91.keep h132 eG5 (by decide)
  have h92 := h92.keep h132 eG5 (by decide)
  have h118 := h118.keep h132 eG5 (by decide)
  have h119 := h119.keep h132 eG5 (by decide)
  have h120 := h120.keep h132 eG5 (by decide)
  have h121 := h121.keep h132 eG5 (by decide)
  have h122 := h122.keep h132 eG5 (by decide)
  have h123 := h123.keep h132 eG5 (by decide)
  have h124 := h124.keep h132 eG5 (by decide)
  have h117 := h117.keep h132 eG5 (by decide)
  have h125 := h125.keep h132 eG5 (by decide)
  have h133 := h133.keep h132 eG5 (by decide)
  have h128 := h128.keep h132 eG5 (by decide)
  have h129 := h129.keep h132 eG5 (by decide)
  have h130 := h130.keep h132 eG5 (by decide)
  have h131 := h131.keep h132 eG5 (by decide)
  have hlen := (z_len eG5).trans hlen
  have hsl := (z_sl h132 eG5 rfl).trans hsl
  have hfr := hfr.wr h132 eG5 (by decide)
  have h132 := h132.kept eG5
  change ab_W _ _ _ (List.set G 132 (za 300 (zu WS w 1))) 30 [some (vR 80), some (vz w), some (vz (WP w)), some (vz (O (WP w)))] [] _
  rw [← eG5]
  refine ab_aload_n d_MO_goGroup_30 rfl ?_
  refine ab_aload_n d_MO_goGroup_31 rfl ?_
  refine ab_getf (fs := mof m_thrown m_taped m_length m_out m_wide m_gathered m_sets m_ranges m_nodes m_at m_flags m_fault m_place m_numbered m_depth m_value m_isNot m_least0 m_most0 m_slot m_work m_got m_rowMany m_charAt m_charWide m_trail m_isMatch m_matchGroups m_allFrom m_allBefore m_founds m_pieces m_writtenMany m_templateWide m_tooMuch) f_MO_56 d_MO_goGroup_32 h80.2.2 rfl ?_
  refine ab_iload_n d_MO_goGroup_35 rfl ?_
  refine zz_iald d_MO_goGroup_36 h96 (by omega) ?_
  have hq6 := jfi (WP w) (by omega) (by omega)
  refine ab_aload_n d_MO_goGroup_37 rfl ?_
  refine ab_getf (fs := mof m_thrown m_taped m_length m_out m_wide m_gathered m_sets m_ranges m_nodes m_at m_flags m_fault m_place m_numbered m_depth m_value m_isNot m_least0 m_most0 m_slot m_work m_got m_rowMany m_charAt m_charWide m_trail m_isMatch m_matchGroups m_allFrom m_allBefore m_founds m_pieces m_writtenMany m_templateWide m_tooMuch) f_MO_161 d_MO_goGroup_38 h80.2.2 rfl ?_
  refine ab_iload_n d_MO_goGroup_41 rfl ?_
  refine zz_iald d_MO_goGroup_42 h129 (by omega) ?_
  have hq7 := gwd w (by omega) (by omega)
  refine ab_iload_n d_MO_goGroup_43 rfl ?_
  refine zz_if_le (tgt := 72) d_MO_goGroup_44 (by decide) (by omega) (fun c8 => ?_) (fun c8 => absurd c8 (by omega))
  refine ab_aload_n d_MO_goGroup_72 rfl ?_
  refine ab_getf (fs := mof m_thrown m_taped m_length m_out m_wide m_gathered m_sets m_ranges m_nodes m_at m_flags m_fault m_place m_numbered m_depth m_value m_isNot m_least0 m_most0 m_slot m_work m_got m_rowMany m_charAt m_charWide m_trail m_isMatch m_matchGroups m_allFrom m_allBefore m_founds m_pieces m_writtenMany m_templateWide m_tooMuch) f_MO_164 d_MO_goGroup_73 h80.2.2 rfl ?_
  refine ab_iload_n d_MO_goGroup_76 rfl ?_
  refine zz_iald d_MO_goGroup_77 h130 (by omega) ?_
  have hq9 := gwt w (by omega) (by omega)
  refine ab_callV (d' := d - 1) (as := [vz (Fi (WP w)), vz (WD w), vz (WT w)]) (st := []) (r := _) (z_MO_open (o := o) (m_thrown := m_thrown) (m_taped := m_taped) (m_length := m_length) (m_out := m_out) (m_wide := m_wide) (m_gathered := m_gathered) (m_sets := m_sets) (m_ranges := m_ranges) (m_nodes := m_nodes) (m_at := m_at) (m_flags := m_flags) (m_fault := m_fault) (m_place := m_place) (m_numbered := m_numbered) (m_depth := m_depth) (m_value := m_value) (m_isNot := m_isNot) (m_least0 := m_least0) (m_most0 := m_most0) (m_slot := m_slot) (m_work := m_work) (m_got := m_got) (m_rowMany := m_rowMany) (m_charAt := m_charAt) (m_charWide := m_charWide) (m_trail := m_trail) (m_isMatch := m_isMatch) (m_matchGroups := m_matchGroups) (m_allFrom := m_allFrom) (m_allBefore := m_allBefore) (m_founds := m_founds) (m_pieces := m_pieces) (m_writtenMany := m_writtenMany) (m_templateWide := m_templateWide) (m_tooMuch := m_tooMuch) (WP := WP) (WD := WD) (WT := WT) (WG := WG) (WS := (zu WS w 1)) (to := (WT w)) (x := (Fi (WP w))) (y := (WD w)) h80 h128 h129 h130 h131 h132 (by omega) (by omega)) (fun oc G2 h => by rcases h with ⟨h, _⟩ <;> exact ⟨_, h⟩) (by omega) m_MO_open ml_MO_464 im_MO_open se_MO_open c_MO h80.2.2 (Nat.le_of_ble_eq_true rfl) d_MO_goGroup_78 rfl ?_
  intro v G10 hq
  rcases hq with ⟨hv, hfk, hlk, hsk, hN80, hN128, hN129, hN130, hN131, hN132⟩
  cases hv
  have h94 := hfk.get h94 (by decide)
  have h95 := hfk.get h95 (by decide)
  have h96 := hfk.get h96 (by decide)
  have h97 := hfk.get h97 (by decide)
  have h98 := hfk.get h98 (by decide)
  have h99 := hfk.get h99 (by decide)
  have h100 := hfk.get h100 (by decide)
  have h101 := hfk.get h101 (by decide)
  have h90 := hfk.get h90 (by decide)
  have h89 := hfk.get h89 (by decide)
  have h91 := hfk.get h91 (by decide)
  have h92 := hfk.get h92 (by decide)
  have h118 := hfk.get h118 (by decide)
  have h119 := hfk.get h119 (by decide)
  have h120 := hfk.get h120 (by decide)
  have h121 := hfk.get h121 (by decide)
  have h122 := hfk.get h122 (by decide)
  have h123 := hfk.get h123 (by decide)
  have h124 := hfk.get h124 (by decide)
  have h117 := hfk.get h117 (by decide)
  have h125 := hfk.get h125 (by decide)
  have h133 := hfk.get h133 (by decide)
  have hfr := hfr.tr hfk (by decide)
  have hlen := hlk.trans hlen
  have hsl := hsk.trans hsl
  have h80 := hN80
  have h128 := hN128
  have h129 := hN129
  have h130 := hN130
  have h131 := hN131
  have h132 := hN132
  change ab_W _ _ _ G10 81 [some (vR 80), some (vz w), some (vz (WP w)), some (vz (O (WP w)))] [] _
  refine ab_vret rfl d_MO_goGroup_81 ?_
  rw [hQ]; exact ⟨_, _, (WG w), _, _, _, _, _, rfl, hfr, hlen, hsl, h80, h128, h129, h130, h131, h132, (by first | exact (rgs_zu gwp (by omega)) | exact rgs_w (rgs_zu gwp (by omega)) (by omega)), (by first | exact (rgs_zu gwd (by omega)) | exact rgs_w (rgs_zu gwd (by omega)) (by omega)), (by first | exact (rgs_zu gwt (by omega)) | exact rgs_w (rgs_zu gwt (by omega)) (by omega)), (by first | exact (rgs_zu gwg (by omega)) | exact rgs_w (rgs_zu gwg (by omega)) (by omega)), (by first | exact (rgs_zu (rgs_zu gws (by omega)) (by omega)) | exact rgs_w (rgs_zu (rgs_zu gws (by omega)) (by omega)) (by omega)), (by exact fun j_ a_ => ⟨by rw [zu_ne (by omega)], by rw [zu_ne (by omega)], by rw [zu_ne (by omega)], by rw [zu_ne (by omega)], by rw [zu_ne (by omega), zu_ne (by omega)]⟩), (by rw [zu_self]), (by rw [zu_self]), (by rw [zu_self]), (by rw [zu_self]), (by rw [zu_self]), (by rw [zu_ne (show w ≠ m_work by omega)]), (by rw [zu_ne (show w ≠ m_work by omega)]), (by rw [zu_ne (show w ≠ m_work by omega)]), (by rw [zu_ne (show w ≠ m_work by omega)]), (by rw [zu_ne (show w ≠ m_work by omega), zu_self] <;> omega), (by first | rfl | (rw [zu_self]; done) | omega), (by first | rfl | (rw [zu_self]; done) | omega)⟩
set_option maxRecDepth 100000 in
set_option maxHeartbeats 4000000 in
theorem z_MO_goGroup_1p {X : ab_X} {d : Nat} {o : Nat → Nat} {G : ab_G} {m_thrown : Int} {m_taped : Int} {m_length : Int} {m_out : Int} {m_wide : Int} {m_gathered : Int} {m_sets : Int} {m_ranges : Int} {m_nodes : Int} {m_at : Int} {m_flags : Int} {m_fault : Int} {m_place : Int} {m_numbered : Int} {m_depth : Int} {m_value : Int} {m_isNot : Int} {m_least0 : Int} {m_most0 : Int} {m_slot : Int} {m_work : Int} {m_got : Int} {m_rowMany : Int} {m_charAt : Int} {m_charWide : Int} {m_trail : Int} {m_isMatch : Int} {m_matchGroups : Int} {m_allFrom : Int} {m_allBefore : Int} {m_founds : Int} {m_pieces : Int} {m_writtenMany : Int} {m_templateWide : Int} {m_tooMuch : Int} {T : Int → Int} {N : Int → Int} {W : Int → Int} {CA : Int → Int} {CM : Int → Int} {CL : Int → Int} {CH : Int → Int} {SN : Int → Int} {CC : Int → Int} {RO : Int → Int} {WP : Int → Int} {WD : Int → Int} {WT : Int → Int} {WG : Int → Int} {WS : Int → Int} {K : Int → Int} {O : Int → Int} {Fi : Int → Int} {Be : Int → Int} {Le : Int → Int} {Mo : Int → Int} {Z : Int → Int} {LZ : Int → Int} {SM : Int → Int} {SA : Int → Int} {RL : Int → Int} {RH : Int → Int} {w : Int} {ns : Int} {nd : Int} (h80 : cc o G 80 280 (ab_ob 12 (mof m_thrown m_taped m_length m_out m_wide m_gathered m_sets m_ranges m_nodes m_at m_flags m_fault m_place m_numbered m_depth m_value m_isNot m_least0 m_most0 m_slot m_work m_got m_rowMany m_charAt m_charWide m_trail m_isMatch m_matchGroups m_allFrom m_allBefore m_founds m_pieces m_writtenMany m_templateWide m_tooMuch))) (h94 : cc o G 94 294 (za 4200 K)) (h95 : cc o G 95 295 (za 4200 O)) (h96 : cc o G 96 296 (za 4200 Fi)) (h97 : cc o G 97 297 (za 4200 Be)) (h98 : cc o G 98 298 (za 4200 Le)) (h99 : cc o G 99 299 (za 4200 Mo)) (h100 : cc o G 100 300 (zl 4200 Z)) (h101 : cc o G 101 301 (zb 4200 LZ)) (h90 : cc o G 90 290 (za 2100 SM)) (h89 : cc o G 89 289 (za 2100 SA)) (h91 : cc o G 91 291 (za 24000 RL)) (h92 : cc o G 92 292 (za 24000 RH)) (h118 : cc o G 118 318 (za 75000 T)) (h119 : cc o G 119 319 (za 75000 N)) (h120 : cc o G 120 320 (za 75000 W)) (h121 : cc o G 121 321 (za 75000 CA)) (h122 : cc o G 122 322 (za 75000 CM)) (h123 : cc o G 123 323 (za 3600 CL)) (h124 : cc o G 124 324 (za 3600 CH)) (h117 : cc o G 117 317 (za 6 SN)) (h125 : cc o G 125 325 (za 6 CC)) (h133 : cc o G 133 333 (za 40000 RO)) (h128 : cc o G 128 328 (za 300 WP)) (h129 : cc o G 129 329 (za 300 WD)) (h130 : cc o G 130 330 (za 300 WT)) (h131 : cc o G 131 331 (za 300 WG)) (h132 : cc o G 132 332 (za 300 WS)) (n18 : ab_n0 = 18) (csl : 0 ≤ m_slot ∧ m_slot ≤ 5) (jrl : rgs RL 24000 0 1114111) (jrh : rgs RH 24000 0 1114111) (jk : rgs K 4200 0 7) (jo : rgs O 4200 (-1) 3000) (jfi : rgs Fi 4200 (-1) 4199) (jbe : rgs Be 4200 (-1) 4199) (jle : rgs Le 4200 0 1000) (jmo : rgs Mo 4200 (-1) 1000) (jz : rgs Z 4200 (-1) 1000000000000) (jlz : rgs LZ 4200 0 1) (jsm : rgs SM 2100 0 24000) (jsa : rgs SA 2100 0 24000) (gt : rgs T 75000 0 6) (gn : rgs N 75000 (-1) 12499) (gw : rgs W 75000 (-1) 12499) (gca : rgs CA 75000 0 3600) (gcm : rgs CM 75000 0 24000) (gcl : rgs CL 3600 0 1114111) (gch : rgs CH 3600 0 1114111) (gsn : rgs SN 6 0 12500) (gcc : rgs CC 6 0 600) (gro : rgs RO 40000 0 12499) (gwp : rgs WP 300 0 4199) (gwd : rgs WD 300 0 31) (gwt : rgs WT 300 0 39968) (gwg : rgs WG 300 0 39968) (gws : rgs WS 300 0 4300) (jka : tka T W CA CM SM SA RL RH CL CH (12500 * m_slot) (SN m_slot) m_slot (CC m_slot) ns) (jss : sas SA SM ns) (cst : 0 ≤ m_rowMany ∧ m_rowMany ≤ 1250 ∧ 0 ≤ (SN m_slot) ∧ (SN m_slot) ≤ 12500 ∧ 0 ≤ ns ∧ ns ≤ 2100) (cw : 0 ≤ w ∧ m_work = w + 1 ∧ w < 299) (cx : 0 ≤ WP w ∧ WP w < nd ∧ 0 ≤ nd ∧ nd ≤ 4200 ∧ 0 ≤ WD w ∧ WD w ≤ 31 ∧ 0 ≤ WT w ∧ WT w + 32 ≤ 32 * m_rowMany) (ck : K (WP w) = 6) (cfi : 0 ≤ Fi (WP w) ∧ Fi (WP w) < nd) (cof : 0 ≤ O (WP w) ∧ O (WP w) ≤ 9) (cs0 : WS w = 1) (cnum : 0 < O (WP w)) (jgo : rokk RO m_got (WD w + 1) (SN m_slot)) (cgo : 0 ≤ m_got ∧ m_got + 32 ≤ 32 * m_rowMany) (crs : m_rowMany ≤ 1249 ∧ (SN m_slot) + WD w + 1 ≤ 12500) (hd : 4 ≤ d) : ab_F X d y_MO_goGroup (.code y_MO_goGroup b_MO_goGroup 4 none) [vR 80, vz w] G (fun oc G2 => ∃ g2 : Int, ∃ WP2 : Int → Int, ∃ WD2 : Int → Int, ∃ WT2 : Int → Int, ∃ WG2 : Int → Int, ∃ WS2 : Int → Int, ∃ RO2 : Int → Int, ∃ T2 : Int → Int, ∃ N2 : Int → Int, ∃ W2 : Int → Int, ∃ SN2 : Int → Int, oc = .returned none ∧ fx o o [280, 328, 329, 330, 331, 332, 333, 318, 319, 320, 317] G G2 ∧ G2.length = G.length ∧ ab_slots G2 = ab_slots G ∧ cc o G2 80 280 (ab_ob 12 (mof m_thrown m_taped m_length m_out m_wide m_gathered m_sets m_ranges m_nodes m_at m_flags m_fault m_place m_numbered m_depth m_value m_isNot m_least0 m_most0 m_slot (m_work - 1) g2 (m_rowMany + 1) m_charAt m_charWide m_trail m_isMatch m_matchGroups m_allFrom m_allBefore m_founds m_pieces m_writtenMany m_templateWide m_tooMuch)) ∧ cc o G2 128 328 (za 300 WP2) ∧ cc o G2 129 329 (za 300 WD2) ∧ cc o G2 130 330 (za 300 WT2) ∧ cc o G2 131 331 (za 300 WG2) ∧ cc o G2 132 332 (za 300 WS2) ∧ cc o G2 133 333 (za 40000 RO2) ∧ cc o G2 118 318 (za 75000 T2) ∧ cc o G2 119 319 (za 75000 N2) ∧ cc o G2 120 320 (za 75000 W2) ∧ cc o G2 117 317 (za 6 SN2) ∧ (rgs WP2 300 0 4199) ∧ (rgs WD2 300 0 31) ∧ (rgs WT2 300 0 39968) ∧ (rgs WG2 300 0 39968) ∧ (rgs WS2 300 0 4300) ∧ (fsm WP WD WT WG WS WP2 WD2 WT2 WG2 WS2 w) ∧ (g2 = (32 * m_rowMany)) ∧ (rgs RO2 40000 0 12499) ∧ (rgs T2 75000 0 6) ∧ (rgs N2 75000 (-1) 12499) ∧ (rgs W2 75000 (-1) 12499) ∧ (rgs SN2 6 0 12500) ∧ ((SN m_slot) ≤ SN2 m_slot ∧ SN2 m_slot ≤ (SN m_slot) + WD w + 1) ∧ (rsm RO RO2 (32 * m_rowMany)) ∧ (sgn T2 N2 W2 (12500 * m_slot) (SN m_slot) (SN2 m_slot)) ∧ (stx T N W CA CM T2 N2 W2 CA CM (12500 * m_slot) (SN m_slot)) ∧ (sno SN SN2 m_slot) ∧ (tka T2 W2 CA CM SM SA RL RH CL CH (12500 * m_slot) (SN2 m_slot) m_slot (CC m_slot) ns) ∧ (rokk RO2 (32 * m_rowMany) (WD w + 1) (SN2 m_slot)) ∧ (rE T2 N2 W2 RO2 m_slot (SN m_slot) (SN2 m_slot) (32 * m_rowMany) (WD w + 1) 4 (fun i => RO (m_got + i)) (fun _ => 2 * O (WP w)))) := by
  refine ab_F_of (by decide +kernel) (Nat.le_of_ble_eq_true rfl) ?_
  obtain ⟨Q, hQ⟩ : ∃ z : Outcome → ab_G → Prop, z = (fun oc G2 => ∃ g2 : Int, ∃ WP2 : Int → Int, ∃ WD2 : Int → Int, ∃ WT2 : Int → Int, ∃ WG2 : Int → Int, ∃ WS2 : Int → Int, ∃ RO2 : Int → Int, ∃ T2 : Int → Int, ∃ N2 : Int → Int, ∃ W2 : Int → Int, ∃ SN2 : Int → Int, oc = .returned none ∧ fx o o [280, 328, 329, 330, 331, 332, 333, 318, 319, 320, 317] G G2 ∧ G2.length = G.length ∧ ab_slots G2 = ab_slots G ∧ cc o G2 80 280 (ab_ob 12 (mof m_thrown m_taped m_length m_out m_wide m_gathered m_sets m_ranges m_nodes m_at m_flags m_fault m_place m_numbered m_depth m_value m_isNot m_least0 m_most0 m_slot (m_work - 1) g2 (m_rowMany + 1) m_charAt m_charWide m_trail m_isMatch m_matchGroups m_allFrom m_allBefore m_founds m_pieces m_writtenMany m_templateWide m_tooMuch)) ∧ cc o G2 128 328 (za 300 WP2) ∧ cc o G2 129 329 (za 300 WD2) ∧ cc o G2 130 330 (za 300 WT2) ∧ cc o G2 131 331 (za 300 WG2) ∧ cc o G2 132 332 (za 300 WS2) ∧ cc o G2 133 333 (za 40000 RO2) ∧ cc o G2 118 318 (za 75000 T2) ∧ cc o G2 119 319 (za 75000 N2) ∧ cc o G2 120 320 (za 75000 W2) ∧ cc o G2 117 317 (za 6 SN2) ∧ (rgs WP2 300 0 4199) ∧ (rgs WD2 300 0 31) ∧ (rgs WT2 300 0 39968) ∧ (rgs WG2 300 0 39968) ∧ (rgs WS2 300 0 4300) ∧ (fsm WP WD WT WG WS WP2 WD2 WT2 WG2 WS2 w) ∧ (g2 = (32 * m_rowMany)) ∧ (rgs RO2 40000 0 12499) ∧ (rgs T2 75000 0 6) ∧ (rgs N2 75000 (-1) 12499) ∧ (rgs W2 75000 (-1) 12499) ∧ (rgs SN2 6 0 12500) ∧ ((SN m_slot) ≤ SN2 m_slot ∧ SN2 m_slot ≤ (SN m_slot) + WD w + 1) ∧ (rsm RO RO2 (32 * m_rowMany)) ∧ (sgn T2 N2 W2 (12500 * m_slot) (SN m_slot) (SN2 m_slot)) ∧ (stx T N W CA CM T2 N2 W2 CA CM (12500 * m_slot) (SN m_slot)) ∧ (sno SN SN2 m_slot) ∧ (tka T2 W2 CA CM SM SA RL RH CL CH (12500 * m_slot) (SN2 m_slot) m_slot (CC m_slot) ns) ∧ (rokk RO2 (32 * m_rowMany) (WD w + 1) (SN2 m_slot)) ∧ (rE T2 N2 W2 RO2 m_slot (SN m_slot) (SN2 m_slot) (32 * m_rowMany) (WD w + 1) 4 (fun i => RO (m_got + i)) (fun _ => 2 * O (WP w)))) := ⟨_, rfl⟩
  rw [← hQ]
  change ab_W X (ab_pl y_MO_goGroup b_MO_goGroup 4 none) d G 0 [some (vR 80), some (vz w), none, none] [] Q
  have hfr : fx o o [280, 328, 329, 330, 331, 332, 333, 318, 319, 320, 317] G G := fx.rf
  have hlen : G.length = G.length := rfl
  have hsl : ab_slots G = ab_slots G := rfl
  refine ab_aload_n d_MO_goGroup_0 rfl ?_
  refine ab_getf (fs := mof m_thrown m_taped m_length m_out m_wide m_gathered m_sets m_ranges m_nodes m_at m_flags m_fault m_place m_numbered m_depth m_value m_isNot m_least0 m_most0 m_slot m_work m_got m_rowMany m_charAt m_charWide m_trail m_isMatch m_matchGroups m_allFrom m_allBefore m_founds m_pieces m_writtenMany m_templateWide m_tooMuch) f_MO_158 d_MO_goGroup_1 h80.2.2 rfl ?_
  refine ab_iload_n d_MO_goGroup_4 rfl ?_
  refine zz_iald d_MO_goGroup_5 h128 (by omega) ?_
  have hq1 := gwp w (by omega) (by omega)
  refine ab_istore_n d_MO_goGroup_6 (Nat.le_of_ble_eq_true rfl) (Nat.le_of_ble_eq_true rfl) rfl ?_
  change ab_W _ _ _ G 7 [some (vR 80), some (vz w), some (vz (WP w)), none] [] _
  refine ab_aload_n d_MO_goGroup_7 rfl ?_
  refine ab_getf (fs := mof m_thrown m_taped m_length m_out m_wide m_gathered m_sets m_ranges m_nodes m_at m_flags m_fault m_place m_numbered m_depth m_value m_isNot m_least0 m_most0 m_slot m_work m_got m_rowMany m_charAt m_charWide m_trail m_isMatch m_matchGroups m_allFrom m_allBefore m_founds m_pieces m_writtenMany m_templateWide m_tooMuch) f_MO_53 d_MO_goGroup_8 h80.2.2 rfl ?_
  refine ab_iload_n d_MO_goGroup_11 rfl ?_
  refine zz_iald d_MO_goGroup_12 h95 (by omega) ?_
  have hq2 := jo (WP w) (by omega) (by omega)
  refine ab_istore_n d_MO_goGroup_13 (Nat.le_of_ble_eq_true rfl) (Nat.le_of_ble_eq_true rfl) rfl ?_
  change ab_W _ _ _ G 14 [some (vR 80), some (vz w), some (vz (WP w)), some (vz (O (WP w)))] [] _
  refine ab_aload_n d_MO_goGroup_14 rfl ?_
  refine ab_getf (fs := mof m_thrown m_taped m_length m_out m_wide m_gathered m_sets m_ranges m_nodes m_at m_flags m_fault m_place m_numbered m_depth m_value m_isNot m_least0 m_most0 m_slot m_work m_got m_rowMany m_charAt m_charWide m_trail m_isMatch m_matchGroups m_allFrom m_allBefore m_founds m_pieces m_writtenMany m_templateWide m_tooMuch) f_MO_170 d_MO_goGroup_15 h80.2.2 rfl ?_
  refine ab_iload_n d_MO_goGroup_18 rfl ?_
  refine zz_iald d_MO_goGroup_19 h132 (by omega) ?_
  have hq3 := gws w (by omega) (by omega)
  refine zz_if_ne (tgt := 82) d_MO_goGroup_20 (by decide) (by omega) (fun c4 => ?_) (fun c4 => absurd c4 (by omega))
  refine ab_aload_n d_MO_goGroup_82 rfl ?_
  refine ab_iload_n d_MO_goGroup_83 rfl ?_
  refine zz_if_le (tgt := 108) d_MO_goGroup_84 (by decide) (by omega) (fun c5 => absurd c5 (by omega)) (fun c5 => ?_)
  refine ab_aload_n d_MO_goGroup_87 rfl ?_
  refine zz_iconst d_MO_goGroup_88 ?_
  refine ab_aload_n d_MO_goGroup_89 rfl ?_
  refine ab_getf (fs := mof m_thrown m_taped m_length m_out m_wide m_gathered m_sets m_ranges m_nodes m_at m_flags m_fault m_place m_numbered m_depth m_value m_isNot m_least0 m_most0 m_slot m_work m_got m_rowMany m_charAt m_charWide m_trail m_isMatch m_matchGroups m_allFrom m_allBefore m_founds m_pieces m_writtenMany m_templateWide m_tooMuch) f_MO_448 d_MO_goGroup_90 h80.2.2 rfl ?_
  refine zz_iconst d_MO_goGroup_93 ?_
  refine ab_iload_n d_MO_goGroup_94 rfl ?_
  refine zz_imul d_MO_goGroup_95 ?_
  refine ab_aload_n d_MO_goGroup_96 rfl ?_
  refine ab_getf (fs := mof m_thrown m_taped m_length m_out m_wide m_gathered m_sets m_ranges m_nodes m_at m_flags m_fault m_place m_numbered m_depth m_value m_isNot m_least0 m_most0 m_slot m_work m_got m_rowMany m_charAt m_charWide m_trail m_isMatch m_matchGroups m_allFrom m_allBefore m_founds m_pieces m_writtenMany m_templateWide m_tooMuch) f_MO_161 d_MO_goGroup_97 h80.2.2 rfl ?_
  refine ab_iload_n d_MO_goGroup_100 rfl ?_
  refine zz_iald d_MO_goGroup_101 h129 (by omega) ?_
  have hq6 := gwd w (by omega) (by omega)
  refine ab_callV (d' := d - 1) (as := [vz 4, vz m_got, vz (2 * (O (WP w))), vz (WD w)]) (st := [vR 80]) (r := _) (z_MO_each (o := o) (m_thrown := m_thrown) (m_taped := m_taped) (m_length := m_length) (m_out := m_out) (m_wide := m_wide) (m_gathered := m_gathered) (m_sets := m_sets) (m_ranges := m_ranges) (m_nodes := m_nodes) (m_at := m_at) (m_flags := m_flags) (m_fault := m_fault) (m_place := m_place) (m_numbered := m_numbered) (m_depth := m_depth) (m_value := m_value) (m_isNot := m_isNot) (m_least0 := m_least0) (m_most0 := m_most0) (m_slot := m_slot) (m_work := m_work) (m_got := m_got) (m_rowMany := m_rowMany) (m_charAt := m_charAt) (m_charWide := m_charWide) (m_trail := m_trail) (m_isMatch := m_isMatch) (m_matchGroups := m_matchGroups) (m_allFrom := m_allFrom) (m_allBefore := m_allBefore) (m_founds := m_founds) (m_pieces := m_pieces) (m_writtenMany := m_writtenMany) (m_templateWide := m_templateWide) (m_tooMuch := m_tooMuch) (T := T) (N := N) (W := W) (CA := CA) (CM := CM) (CL := CL) (CH := CH) (SN := SN) (RO := RO) (SM := SM) (SA := SA) (RL := RL) (RH := RH) (k := 4) (to := m_got) (be := (2 * (O (WP w)))) (dp := (WD w)) (ns := ns) (cl := (CC m_slot)) h80 h133 h118 h119 h120 h117 (by omega) (by omega) (by omega) gro gt gn gw gsn (by omega) (by left; omega) jgo jka (by omega)) (fun oc G2 h => by rcases h with ⟨_, _, _, _, _, h, _⟩ <;> exact ⟨_, h⟩) (by omega) m_MO_each ml_MO_470 im_MO_each se_MO_each c_MO h80.2.2 (Nat.le_of_ble_eq_true rfl) d_MO_goGroup_102 rfl ?_
  intro v G7 hq
  rcases hq with ⟨RO28, T29, N210, W211, SN212, hv, hfk, hlk, hsk, hN80, hN133, hN118, hN119, hN120, hN117, hq13, hq14, hq15, hq16, hq17, hq18, hq19, hq20, hq21, hq22, hq23, hq24, hq25⟩
  cases hv
  have h94 := hfk.get h94 (by decide)
  have h95 := hfk.get h95 (by decide)
  have h96 := hfk.get h96 (by decide)
  have h97 := hfk.get h97 (by decide)
  have h98 := hfk.get h98 (by decide)
  have h99 := hfk.get h99 (by decide)
  have h100 := hfk.get h100 (by decide)
  have h101 := hfk.get h101 (by decide)
  have h90 := hfk.get h90 (by decide)
  have h89 := hfk.get h89 (by decide)
  have h91 := hfk.get h91 (by decide)
  have h92 := hfk.get h92 (by decide)
  have h121 := hfk.get h121 (by decide)
  have h122 := hfk.get h122 (by decide)
  have h123 := hfk.get h123 (by decide)
  have h124 := hfk.get h124 (by decide)
  have h125 := hfk.get h125 (by decide)
  have h128 := hfk.get h128 (by decide)
  have h129 := hfk.get h129 (by decide)
  have h130 := hfk.get h130 (by decide)
  have h131 := hfk.get h131 (by decide)
  have h132 := hfk.get h132 (by decide)
  have hfr := hfr.tr hfk (by decide)
  have hlen := hlk.trans hlen
  have hsl := hsk.trans hsl
  have h80 := hN80
  have h133 := hN133
  have h118 := hN118
  have h119 := hN119
  have h120 := hN120
  have h117 := hN117
  change ab_W _ _ _ G7 105 [some (vR 80), some (vz w), some (vz (WP w)), some (vz (O (WP w)))] [vz (32 * m_rowMany), vR 80] _
  refine ab_goto (tgt := 112) d_MO_goGroup_105 (by decide) ?_
  refine ab_callV (d' := d - 1) (as := [vz (32 * m_rowMany)]) (st := []) (r := _) (z_MO_done (o := o) (m_thrown := m_thrown) (m_taped := m_taped) (m_length := m_length) (m_out := m_out) (m_wide := m_wide) (m_gathered := m_gathered) (m_sets := m_sets) (m_ranges := m_ranges) (m_nodes := m_nodes) (m_at := m_at) (m_flags := m_flags) (m_fault := m_fault) (m_place := m_place) (m_numbered := m_numbered) (m_depth := m_depth) (m_value := m_value) (m_isNot := m_isNot) (m_least0 := m_least0) (m_most0 := m_most0) (m_slot := m_slot) (m_work := m_work) (m_got := m_got) (m_rowMany := (m_rowMany + 1)) (m_charAt := m_charAt) (m_charWide := m_charWide) (m_trail := m_trail) (m_isMatch := m_isMatch) (m_matchGroups := m_matchGroups) (m_allFrom := m_allFrom) (m_allBefore := m_allBefore) (m_founds := m_founds) (m_pieces := m_pieces) (m_writtenMany := m_writtenMany) (m_templateWide := m_templateWide) (m_tooMuch := m_tooMuch) (x := (32 * m_rowMany)) h80 (by omega)) (fun oc G2 h => by rcases h with ⟨h, _⟩ <;> exact ⟨_, h⟩) (by omega) m_MO_done ml_MO_461 im_MO_done se_MO_done c_MO h80.2.2 (Nat.le_of_ble_eq_true rfl) d_MO_goGroup_112 rfl ?_
  intro v G26 hq
  rcases hq with ⟨hv, hfk, hlk, hsk, hN80⟩
  cases hv
  have h94 := hfk.get h94 (by decide)
  have h95 := hfk.get h95 (by decide)
  have h96 := hfk.get h96 (by decide)
  have h97 := hfk.get h97 (by decide)
  have h98 := hfk.get h98 (by decide)
  have h99 := hfk.get h99 (by decide)
  have h100 := hfk.get h100 (by decide)
  have h101 := hfk.get h101 (by decide)
  have h90 := hfk.get h90 (by decide)
  have h89 := hfk.get h89 (by decide)
  have h91 := hfk.get h91 (by decide)
  have h92 := hfk.get h92 (by decide)
  have h118 := hfk.get h118 (by decide)
  have h119 := hfk.get h119 (by decide)
  have h120 := hfk.get h120 (by decide)
  have h121 := hfk.get h121 (by decide)
  have h122 := hfk.get h122 (by decide)
  have h123 := hfk.get h123 (by decide)
  have h124 := hfk.get h124 (by decide)
  have h117 := hfk.get h117 (by decide)
  have h125 := hfk.get h125 (by decide)
  have h133 := hfk.get h133 (by decide)
  have h128 := hfk.get h128 (by decide)
  have h129 := hfk.get h129 (by decide)
  have h130 := hfk.get h130 (by decide)
  have h131 := hfk.get h131 (by decide)
  have h132 := hfk.get h132 (by decide)
  have hfr := hfr.tr hfk (by decide)
  have hlen := hlk.trans hlen
  have hsl := hsk.trans hsl
  have h80 := hN80
  change ab_W _ _ _ G26 115 [some (vR 80), some (vz w), some (vz (WP w)), some (vz (O (WP w)))] [] _
  refine ab_vret rfl d_MO_goGroup_115 ?_
  rw [hQ]; exact ⟨_, _, _, _, _, _, _, _, _, _, _, rfl, hfr, hlen, hsl, h80, h128, h129, h130, h131, h132, h133, h118, h119, h120, h117, (by first | exact gwp | exact rgs_w gwp (by omega)), (by first | exact gwd | exact rgs_w gwd (by omega)), (by first | exact gwt | exact rgs_w gwt (by omega)), (by first | exact gwg | exact rgs_w gwg (by omega)), (by first | exact gws | exact rgs_w gws (by omega)), (by exact fun j_ a_ => ⟨rfl, rfl, rfl, rfl, rfl⟩), (by first | rfl | (rw [zu_self]; done) | omega), (by first | exact hq13 | exact rgs_w hq13 (by omega)), (by first | exact hq14 | exact rgs_w hq14 (by omega)), (by first | exact hq15 | exact rgs_w hq15 (by omega)), (by first | exact hq16 | exact rgs_w hq16 (by omega)), (by first | exact hq17 | exact rgs_w hq17 (by omega)), (by omega), (by exact hq20), (by exact hq21), (by exact hq22), (by exact hq23), (by exact hq24), (by exact hq19), (by exact hq25)⟩
set_option maxRecDepth 100000 in
set_option maxHeartbeats 4000000 in
theorem z_MO_goGroup_1z {X : ab_X} {d : Nat} {o : Nat → Nat} {G : ab_G} {m_thrown : Int} {m_taped : Int} {m_length : Int} {m_out : Int} {m_wide : Int} {m_gathered : Int} {m_sets : Int} {m_ranges : Int} {m_nodes : Int} {m_at : Int} {m_flags : Int} {m_fault : Int} {m_place : Int} {m_numbered : Int} {m_depth : Int} {m_value : Int} {m_isNot : Int} {m_least0 : Int} {m_most0 : Int} {m_slot : Int} {m_work : Int} {m_got : Int} {m_rowMany : Int} {m_charAt : Int} {m_charWide : Int} {m_trail : Int} {m_isMatch : Int} {m_matchGroups : Int} {m_allFrom : Int} {m_allBefore : Int} {m_founds : Int} {m_pieces : Int} {m_writtenMany : Int} {m_templateWide : Int} {m_tooMuch : Int} {T : Int → Int} {N : Int → Int} {W : Int → Int} {CA : Int → Int} {CM : Int → Int} {CL : Int → Int} {CH : Int → Int} {SN : Int → Int} {CC : Int → Int} {RO : Int → Int} {WP : Int → Int} {WD : Int → Int} {WT : Int → Int} {WG : Int → Int} {WS : Int → Int} {K : Int → Int} {O : Int → Int} {Fi : Int → Int} {Be : Int → Int} {Le : Int → Int} {Mo : Int → Int} {Z : Int → Int} {LZ : Int → Int} {SM : Int → Int} {SA : Int → Int} {RL : Int → Int} {RH : Int → Int} {w : Int} {ns : Int} {nd : Int} (h80 : cc o G 80 280 (ab_ob 12 (mof m_thrown m_taped m_length m_out m_wide m_gathered m_sets m_ranges m_nodes m_at m_flags m_fault m_place m_numbered m_depth m_value m_isNot m_least0 m_most0 m_slot m_work m_got m_rowMany m_charAt m_charWide m_trail m_isMatch m_matchGroups m_allFrom m_allBefore m_founds m_pieces m_writtenMany m_templateWide m_tooMuch))) (h94 : cc o G 94 294 (za 4200 K)) (h95 : cc o G 95 295 (za 4200 O)) (h96 : cc o G 96 296 (za 4200 Fi)) (h97 : cc o G 97 297 (za 4200 Be)) (h98 : cc o G 98 298 (za 4200 Le)) (h99 : cc o G 99 299 (za 4200 Mo)) (h100 : cc o G 100 300 (zl 4200 Z)) (h101 : cc o G 101 301 (zb 4200 LZ)) (h90 : cc o G 90 290 (za 2100 SM)) (h89 : cc o G 89 289 (za 2100 SA)) (h91 : cc o G 91 291 (za 24000 RL)) (h92 : cc o G 92 292 (za 24000 RH)) (h118 : cc o G 118 318 (za 75000 T)) (h119 : cc o G 119 319 (za 75000 N)) (h120 : cc o G 120 320 (za 75000 W)) (h121 : cc o G 121 321 (za 75000 CA)) (h122 : cc o G 122 322 (za 75000 CM)) (h123 : cc o G 123 323 (za 3600 CL)) (h124 : cc o G 124 324 (za 3600 CH)) (h117 : cc o G 117 317 (za 6 SN)) (h125 : cc o G 125 325 (za 6 CC)) (h133 : cc o G 133 333 (za 40000 RO)) (h128 : cc o G 128 328 (za 300 WP)) (h129 : cc o G 129 329 (za 300 WD)) (h130 : cc o G 130 330 (za 300 WT)) (h131 : cc o G 131 331 (za 300 WG)) (h132 : cc o G 132 332 (za 300 WS)) (n18 : ab_n0 = 18) (csl : 0 ≤ m_slot ∧ m_slot ≤ 5) (jrl : rgs RL 24000 0 1114111) (jrh : rgs RH 24000 0 1114111) (jk : rgs K 4200 0 7) (jo : rgs O 4200 (-1) 3000) (jfi : rgs Fi 4200 (-1) 4199) (jbe : rgs Be 4200 (-1) 4199) (jle : rgs Le 4200 0 1000) (jmo : rgs Mo 4200 (-1) 1000) (jz : rgs Z 4200 (-1) 1000000000000) (jlz : rgs LZ 4200 0 1) (jsm : rgs SM 2100 0 24000) (jsa : rgs SA 2100 0 24000) (gt : rgs T 75000 0 6) (gn : rgs N 75000 (-1) 12499) (gw : rgs W 75000 (-1) 12499) (gca : rgs CA 75000 0 3600) (gcm : rgs CM 75000 0 24000) (gcl : rgs CL 3600 0 1114111) (gch : rgs CH 3600 0 1114111) (gsn : rgs SN 6 0 12500) (gcc : rgs CC 6 0 600) (gro : rgs RO 40000 0 12499) (gwp : rgs WP 300 0 4199) (gwd : rgs WD 300 0 31) (gwt : rgs WT 300 0 39968) (gwg : rgs WG 300 0 39968) (gws : rgs WS 300 0 4300) (jka : tka T W CA CM SM SA RL RH CL CH (12500 * m_slot) (SN m_slot) m_slot (CC m_slot) ns) (jss : sas SA SM ns) (cst : 0 ≤ m_rowMany ∧ m_rowMany ≤ 1250 ∧ 0 ≤ (SN m_slot) ∧ (SN m_slot) ≤ 12500 ∧ 0 ≤ ns ∧ ns ≤ 2100) (cw : 0 ≤ w ∧ m_work = w + 1 ∧ w < 299) (cx : 0 ≤ WP w ∧ WP w < nd ∧ 0 ≤ nd ∧ nd ≤ 4200 ∧ 0 ≤ WD w ∧ WD w ≤ 31 ∧ 0 ≤ WT w ∧ WT w + 32 ≤ 32 * m_rowMany) (ck : K (WP w) = 6) (cfi : 0 ≤ Fi (WP w) ∧ Fi (WP w) < nd) (cof : 0 ≤ O (WP w) ∧ O (WP w) ≤ 9) (cs0 : WS w = 1) (cnum : O (WP w) = 0) (hd : 4 ≤ d) : ab_F X d y_MO_goGroup (.code y_MO_goGroup b_MO_goGroup 4 none) [vR 80, vz w] G (fun oc G2 => ∃ g2 : Int, ∃ WP2 : Int → Int, ∃ WD2 : Int → Int, ∃ WT2 : Int → Int, ∃ WG2 : Int → Int, ∃ WS2 : Int → Int, oc = .returned none ∧ fx o o [280, 328, 329, 330, 331, 332] G G2 ∧ G2.length = G.length ∧ ab_slots G2 = ab_slots G ∧ cc o G2 80 280 (ab_ob 12 (mof m_thrown m_taped m_length m_out m_wide m_gathered m_sets m_ranges m_nodes m_at m_flags m_fault m_place m_numbered m_depth m_value m_isNot m_least0 m_most0 m_slot (m_work - 1) g2 m_rowMany m_charAt m_charWide m_trail m_isMatch m_matchGroups m_allFrom m_allBefore m_founds m_pieces m_writtenMany m_templateWide m_tooMuch)) ∧ cc o G2 128 328 (za 300 WP2) ∧ cc o G2 129 329 (za 300 WD2) ∧ cc o G2 130 330 (za 300 WT2) ∧ cc o G2 131 331 (za 300 WG2) ∧ cc o G2 132 332 (za 300 WS2) ∧ (rgs WP2 300 0 4199) ∧ (rgs WD2 300 0 31) ∧ (rgs WT2 300 0 39968) ∧ (rgs WG2 300 0 39968) ∧ (rgs WS2 300 0 4300) ∧ (fsm WP WD WT WG WS WP2 WD2 WT2 WG2 WS2 w) ∧ (g2 = m_got)) := by
  refine ab_F_of (by decide +kernel) (Nat.le_of_ble_eq_true rfl) ?_
  obtain ⟨Q, hQ⟩ : ∃ z : Outcome → ab_G → Prop, z = (fun oc G2 => ∃ g2 : Int, ∃ WP2 : Int → Int, ∃ WD2 : Int → Int, ∃ WT2 : Int → Int, ∃ WG2 : Int → Int, ∃ WS2 : Int → Int, oc = .returned none ∧ fx o o [280, 328, 329, 330, 331, 332] G G2 ∧ G2.length = G.length ∧ ab_slots G2 = ab_slots G ∧ cc o G2 80 280 (ab_ob 12 (mof m_thrown m_taped m_length m_out m_wide m_gathered m_sets m_ranges m_nodes m_at m_flags m_fault m_place m_numbered m_depth m_value m_isNot m_least0 m_most0 m_slot (m_work - 1) g2 m_rowMany m_charAt m_charWide m_trail m_isMatch m_matchGroups m_allFrom m_allBefore m_founds m_pieces m_writtenMany m_templateWide m_tooMuch)) ∧ cc o G2 128 328 (za 300 WP2) ∧ cc o G2 129 329 (za 300 WD2) ∧ cc o G2 130 330 (za 300 WT2) ∧ cc o G2 131 331 (za 300 WG2) ∧ cc o G2 132 332 (za 300 WS2) ∧ (rgs WP2 300 0 4199) ∧ (rgs WD2 300 0 31) ∧ (rgs WT2 300 0 39968) ∧ (rgs WG2 300 0 39968) ∧ (rgs WS2 300 0 4300) ∧ (fsm WP WD WT WG WS WP2 WD2 WT2 WG2 WS2 w) ∧ (g2 = m_got)) := ⟨_, rfl⟩
  rw [← hQ]
  change ab_W X (ab_pl y_MO_goGroup b_MO_goGroup 4 none) d G 0 [some (vR 80), some (vz w), none, none] [] Q
  have hfr : fx o o [280, 328, 329, 330, 331, 332] G G := fx.rf
  have hlen : G.length = G.length := rfl
  have hsl : ab_slots G = ab_slots G := rfl
  refine ab_aload_n d_MO_goGroup_0 rfl ?_
  refine ab_getf (fs := mof m_thrown m_taped m_length m_out m_wide m_gathered m_sets m_ranges m_nodes m_at m_flags m_fault m_place m_numbered m_depth m_value m_isNot m_least0 m_most0 m_slot m_work m_got m_rowMany m_charAt m_charWide m_trail m_isMatch m_matchGroups m_allFrom m_allBefore m_founds m_pieces m_writtenMany m_templateWide m_tooMuch) f_MO_158 d_MO_goGroup_1 h80.2.2 rfl ?_
  refine ab_iload_n d_MO_goGroup_4 rfl ?_
  refine zz_iald d_MO_goGroup_5 h128 (by omega) ?_
  have hq1 := gwp w (by omega) (by omega)
  refine ab_istore_n d_MO_goGroup_6 (Nat.le_of_ble_eq_true rfl) (Nat.le_of_ble_eq_true rfl) rfl ?_
  change ab_W _ _ _ G 7 [some (vR 80), some (vz w), some (vz (WP w)), none] [] _
  refine ab_aload_n d_MO_goGroup_7 rfl ?_
  refine ab_getf (fs := mof m_thrown m_taped m_length m_out m_wide m_gathered m_sets m_ranges m_nodes m_at m_flags m_fault m_place m_numbered m_depth m_value m_isNot m_least0 m_most0 m_slot m_work m_got m_rowMany m_charAt m_charWide m_trail m_isMatch m_matchGroups m_allFrom m_allBefore m_founds m_pieces m_writtenMany m_templateWide m_tooMuch) f_MO_53 d_MO_goGroup_8 h80.2.2 rfl ?_
  refine ab_iload_n d_MO_goGroup_11 rfl ?_
  refine zz_iald d_MO_goGroup_12 h95 (by omega) ?_
  have hq2 := jo (WP w) (by omega) (by omega)
  refine ab_istore_n d_MO_goGroup_13 (Nat.le_of_ble_eq_true rfl) (Nat.le_of_ble_eq_true rfl) rfl ?_
  change ab_W _ _ _ G 14 [some (vR 80), some (vz w), some (vz (WP w)), some (vz (O (WP w)))] [] _
  refine ab_aload_n d_MO_goGroup_14 rfl ?_
  refine ab_getf (fs := mof m_thrown m_taped m_length m_out m_wide m_gathered m_sets m_ranges m_nodes m_at m_flags m_fault m_place m_numbered m_depth m_value m_isNot m_least0 m_most0 m_slot m_work m_got m_rowMany m_charAt m_charWide m_trail m_isMatch m_matchGroups m_allFrom m_allBefore m_founds m_pieces m_writtenMany m_templateWide m_tooMuch) f_MO_170 d_MO_goGroup_15 h80.2.2 rfl ?_
  refine ab_iload_n d_MO_goGroup_18 rfl ?_
  refine zz_iald d_MO_goGroup_19 h132 (by omega) ?_
  have hq3 := gws w (by omega) (by omega)
  refine zz_if_ne (tgt := 82) d_MO_goGroup_20 (by decide) (by omega) (fun c4 => ?_) (fun c4 => absurd c4 (by omega))
  refine ab_aload_n d_MO_goGroup_82 rfl ?_
  refine ab_iload_n d_MO_goGroup_83 rfl ?_
  refine zz_if_le (tgt := 108) d_MO_goGroup_84 (by decide) (by omega) (fun c5 => ?_) (fun c5 => absurd c5 (by omega))
  refine ab_aload_n d_MO_goGroup_108 rfl ?_
  refine ab_getf (fs := mof m_thrown m_taped m_length m_out m_wide m_gathered m_sets m_ranges m_nodes m_at m_flags m_fault m_place m_numbered m_depth m_value m_isNot m_least0 m_most0 m_slot m_work m_got m_rowMany m_charAt m_charWide m_trail m_isMatch m_matchGroups m_allFrom m_allBefore m_founds m_pieces m_writtenMany m_templateWide m_tooMuch) f_MO_448 d_MO_goGroup_109 h80.2.2 rfl ?_
  refine ab_callV (d' := d - 1) (as := [vz m_got]) (st := []) (r := _) (z_MO_done (o := o) (m_thrown := m_thrown) (m_taped := m_taped) (m_length := m_length) (m_out := m_out) (m_wide := m_wide) (m_gathered := m_gathered) (m_sets := m_sets) (m_ranges := m_ranges) (m_nodes := m_nodes) (m_at := m_at) (m_flags := m_flags) (m_fault := m_fault) (m_place := m_place) (m_numbered := m_numbered) (m_depth := m_depth) (m_value := m_value) (m_isNot := m_isNot) (m_least0 := m_least0) (m_most0 := m_most0) (m_slot := m_slot) (m_work := m_work) (m_got := m_got) (m_rowMany := m_rowMany) (m_charAt := m_charAt) (m_charWide := m_charWide) (m_trail := m_trail) (m_isMatch := m_isMatch) (m_matchGroups := m_matchGroups) (m_allFrom := m_allFrom) (m_allBefore := m_allBefore) (m_founds := m_founds) (m_pieces := m_pieces) (m_writtenMany := m_writtenMany) (m_templateWide := m_templateWide) (m_tooMuch := m_tooMuch) (x := m_got) h80 (by omega)) (fun oc G2 h => by rcases h with ⟨h, _⟩ <;> exact ⟨_, h⟩) (by omega) m_MO_done ml_MO_461 im_MO_done se_MO_done c_MO h80.2.2 (Nat.le_of_ble_eq_true rfl) d_MO_goGroup_112 rfl ?_
  intro v G6 hq
  rcases hq with ⟨hv, hfk, hlk, hsk, hN80⟩
  cases hv
  have h94 := hfk.get h94 (by decide)
  have h95 := hfk.get h95 (by decide)
  have h96 := hfk.get h96 (by decide)
  have h97 := hfk.get h97 (by decide)
  have h98 := hfk.get h98 (by decide)
  have h99 := hfk.get h99 (by decide)
  have h100 := hfk.get h100 (by decide)
  have h101 := hfk.get h101 (by decide)
  have h90 := hfk.get h90 (by decide)
  have h89 := hfk.get h89 (by decide)
  have h91 := hfk.get h91 (by decide)
  have h92 := hfk.get h92 (by decide)
  have h118 := hfk.get h118 (by decide)
  have h119 := hfk.get h119 (by decide)
  have h120 := hfk.get h120 (by decide)
  have h121 := hfk.get h121 (by decide)
  have h122 := hfk.get h122 (by decide)
  have h123 := hfk.get h123 (by decide)
  have h124 := hfk.get h124 (by decide)
  have h117 := hfk.get h117 (by decide)
  have h125 := hfk.get h125 (by decide)
  have h133 := hfk.get h133 (by decide)
  have h128 := hfk.get h128 (by decide)
  have h129 := hfk.get h129 (by decide)
  have h130 := hfk.get h130 (by decide)
  have h131 := hfk.get h131 (by decide)
  have h132 := hfk.get h132 (by decide)
  have hfr := hfr.tr hfk (by decide)
  have hlen := hlk.trans hlen
  have hsl := hsk.trans hsl
  have h80 := hN80
  change ab_W _ _ _ G6 115 [some (vR 80), some (vz w), some (vz (WP w)), some (vz (O (WP w)))] [] _
  refine ab_vret rfl d_MO_goGroup_115 ?_
  rw [hQ]; exact ⟨_, _, _, _, _, _, rfl, hfr, hlen, hsl, h80, h128, h129, h130, h131, h132, (by first | exact gwp | exact rgs_w gwp (by omega)), (by first | exact gwd | exact rgs_w gwd (by omega)), (by first | exact gwt | exact rgs_w gwt (by omega)), (by first | exact gwg | exact rgs_w gwg (by omega)), (by first | exact gws | exact rgs_w gws (by omega)), (by exact fun j_ a_ => ⟨rfl, rfl, rfl, rfl, rfl⟩), (by first | rfl | (rw [zu_self]; done) | omega)⟩
