set_option maxRecDepth 100000 in
set_option maxHeartbeats 4000000 in
theorem z_MO_goRepeat_c {X : ab_X} {d : Nat} {o : Nat → Nat} {G : ab_G} {m_thrown : Int} {m_taped : Int} {m_length : Int} {m_out : Int} {m_wide : Int} {m_gathered : Int} {m_sets : Int} {m_ranges : Int} {m_nodes : Int} {m_at : Int} {m_flags : Int} {m_fault : Int} {m_place : Int} {m_numbered : Int} {m_depth : Int} {m_value : Int} {m_isNot : Int} {m_least0 : Int} {m_most0 : Int} {m_slot : Int} {m_work : Int} {m_got : Int} {m_rowMany : Int} {m_charAt : Int} {m_charWide : Int} {m_trail : Int} {m_isMatch : Int} {m_matchGroups : Int} {m_allFrom : Int} {m_allBefore : Int} {m_founds : Int} {m_pieces : Int} {m_writtenMany : Int} {m_templateWide : Int} {m_tooMuch : Int} {T : Int → Int} {N : Int → Int} {W : Int → Int} {CA : Int → Int} {CM : Int → Int} {CL : Int → Int} {CH : Int → Int} {SN : Int → Int} {CC : Int → Int} {RO : Int → Int} {WP : Int → Int} {WD : Int → Int} {WT : Int → Int} {WG : Int → Int} {WS : Int → Int} {K : Int → Int} {O : Int → Int} {Fi : Int → Int} {Be : Int → Int} {Le : Int → Int} {Mo : Int → Int} {Z : Int → Int} {LZ : Int → Int} {SM : Int → Int} {SA : Int → Int} {RL : Int → Int} {RH : Int → Int} {w : Int} {ns : Int} {nd : Int} {n1 : Int} (h80 : cc o G 80 280 (ab_ob 12 (mof m_thrown m_taped m_length m_out m_wide m_gathered m_sets m_ranges m_nodes m_at m_flags m_fault m_place m_numbered m_depth m_value m_isNot m_least0 m_most0 m_slot m_work m_got m_rowMany m_charAt m_charWide m_trail m_isMatch m_matchGroups m_allFrom m_allBefore m_founds m_pieces m_writtenMany m_templateWide m_tooMuch))) (h94 : cc o G 94 294 (za 4200 K)) (h95 : cc o G 95 295 (za 4200 O)) (h96 : cc o G 96 296 (za 4200 Fi)) (h97 : cc o G 97 297 (za 4200 Be)) (h98 : cc o G 98 298 (za 4200 Le)) (h99 : cc o G 99 299 (za 4200 Mo)) (h100 : cc o G 100 300 (zl 4200 Z)) (h101 : cc o G 101 301 (zb 4200 LZ)) (h90 : cc o G 90 290 (za 2100 SM)) (h89 : cc o G 89 289 (za 2100 SA)) (h91 : cc o G 91 291 (za 24000 RL)) (h92 : cc o G 92 292 (za 24000 RH)) (h118 : cc o G 118 318 (za 75000 T)) (h119 : cc o G 119 319 (za 75000 N)) (h120 : cc o G 120 320 (za 75000 W)) (h121 : cc o G 121 321 (za 75000 CA)) (h122 : cc o G 122 322 (za 75000 CM)) (h123 : cc o G 123 323 (za 3600 CL)) (h124 : cc o G 124 324 (za 3600 CH)) (h117 : cc o G 117 317 (za 6 SN)) (h125 : cc o G 125 325 (za 6 CC)) (h133 : cc o G 133 333 (za 40000 RO)) (h128 : cc o G 128 328 (za 300 WP)) (h129 : cc o G 129 329 (za 300 WD)) (h130 : cc o G 130 330 (za 300 WT)) (h131 : cc o G 131 331 (za 300 WG)) (h132 : cc o G 132 332 (za 300 WS)) (n18 : ab_n0 = 18) (csl : 0 ≤ m_slot ∧ m_slot ≤ 5) (jrl : rgs RL 24000 0 1114111) (jrh : rgs RH 24000 0 1114111) (jk : rgs K 4200 0 7) (jo : rgs O 4200 (-1) 3000) (jfi : rgs Fi 4200 (-1) 4199) (jbe : rgs Be 4200 (-1) 4199) (jle : rgs Le 4200 0 1000) (jmo : rgs Mo 4200 (-1) 1000) (jz : rgs Z 4200 (-1) 1000000000000) (jlz : rgs LZ 4200 0 1) (jsm : rgs SM 2100 0 24000) (jsa : rgs SA 2100 0 24000) (gt : rgs T 75000 0 6) (gn : rgs N 75000 (-1) 12499) (gw : rgs W 75000 (-1) 12499) (gca : rgs CA 75000 0 3600) (gcm : rgs CM 75000 0 24000) (gcl : rgs CL 3600 0 1114111) (gch : rgs CH 3600 0 1114111) (gsn : rgs SN 6 0 12500) (gcc : rgs CC 6 0 600) (gro : rgs RO 40000 0 12499) (gwp : rgs WP 300 0 4199) (gwd : rgs WD 300 0 31) (gwt : rgs WT 300 0 39968) (gwg : rgs WG 300 0 39968) (gws : rgs WS 300 0 4300) (jka : tka T W CA CM SM SA RL RH CL CH (12500 * m_slot) (SN m_slot) m_slot (CC m_slot) ns) (jss : sas SA SM ns) (cst : 0 ≤ m_rowMany ∧ m_rowMany ≤ 1250 ∧ 0 ≤ (SN m_slot) ∧ (SN m_slot) ≤ 12500 ∧ 0 ≤ ns ∧ ns ≤ 2100) (cw : 0 ≤ w ∧ m_work = w + 1 ∧ w < 299) (cx : 0 ≤ WP w ∧ WP w < nd ∧ 0 ≤ nd ∧ nd ≤ 4200 ∧ 0 ≤ WD w ∧ WD w ≤ 31 ∧ 0 ≤ WT w ∧ WT w + 32 ≤ 32 * m_rowMany) (jto : rokk RO (WT w) (WD w + 1) (SN m_slot)) (jgo : rokk RO m_got (WD w + 1) (SN m_slot)) (cgo : 0 ≤ m_got ∧ m_got + 32 ≤ 32 * m_rowMany) (cwg : 0 ≤ WG w ∧ WG w + 32 ≤ 32 * m_rowMany) (ck : K (WP w) = 7) (cfi : 0 ≤ Fi (WP w) ∧ Fi (WP w) < nd) (clm : 0 ≤ Le (WP w) ∧ Le (WP w) ≤ 100 ∧ -1 ≤ Mo (WP w) ∧ Mo (WP w) ≤ 100) (cmo : Mo (WP w) < 0) (cs0 : WS w = 1) (jwq : rsq RO (WG w) (WD w + 1) n1) (cn1 : 0 ≤ n1 ∧ n1 + WD w + 1 ≤ (SN m_slot) ∧ WD w ≤ 30) (hd : 5 ≤ d) : ab_F X d y_MO_goRepeat (.code y_MO_goRepeat b_MO_goRepeat 6 none) [vR 80, vz w] G (fun oc G2 => (∃ g2 : Int, ∃ WP2 : Int → Int, ∃ WD2 : Int → Int, ∃ WT2 : Int → Int, ∃ WG2 : Int → Int, ∃ WS2 : Int → Int, ∃ N2 : Int → Int, ∃ W2 : Int → Int, oc = .returned none ∧ fx o o [280, 328, 329, 330, 331, 332, 319, 320] G G2 ∧ G2.length = G.length ∧ ab_slots G2 = ab_slots G ∧ cc o G2 80 280 (ab_ob 12 (mof m_thrown m_taped m_length m_out m_wide m_gathered m_sets m_ranges m_nodes m_at m_flags m_fault m_place m_numbered m_depth m_value m_isNot m_least0 m_most0 m_slot (m_work - 1) g2 m_rowMany m_charAt m_charWide m_trail m_isMatch m_matchGroups m_allFrom m_allBefore m_founds m_pieces m_writtenMany m_templateWide m_tooMuch)) ∧ cc o G2 128 328 (za 300 WP2) ∧ cc o G2 129 329 (za 300 WD2) ∧ cc o G2 130 330 (za 300 WT2) ∧ cc o G2 131 331 (za 300 WG2) ∧ cc o G2 132 332 (za 300 WS2) ∧ cc o G2 119 319 (za 75000 N2) ∧ cc o G2 120 320 (za 75000 W2) ∧ (rgs WP2 300 0 4199) ∧ (rgs WD2 300 0 31) ∧ (rgs WT2 300 0 39968) ∧ (rgs WG2 300 0 39968) ∧ (rgs WS2 300 0 4300) ∧ (fsm WP WD WT WG WS WP2 WD2 WT2 WG2 WS2 w) ∧ (g2 = WG w) ∧ (Le (WP w) = 0) ∧ (rgs N2 75000 (-1) 12499) ∧ (rgs W2 75000 (-1) 12499) ∧ (clr N W N2 W2 (12500 * m_slot) n1 (WD w + 1) (SN m_slot)) ∧ (clx N2 W2 RO m_slot n1 (WD w + 1) (LZ (WP w)) m_got (WT w))) ∨ (∃ c2 : Int, ∃ t2 : Int, ∃ u2 : Int, ∃ WP2 : Int → Int, ∃ WD2 : Int → Int, ∃ WT2 : Int → Int, ∃ WG2 : Int → Int, ∃ WS2 : Int → Int, ∃ N2 : Int → Int, ∃ W2 : Int → Int, oc = .returned none ∧ fx o o [280, 328, 329, 330, 331, 332, 319, 320] G G2 ∧ G2.length = G.length ∧ ab_slots G2 = ab_slots G ∧ cc o G2 80 280 (ab_ob 12 (mof m_thrown m_taped m_length m_out m_wide m_gathered m_sets m_ranges m_nodes m_at m_flags m_fault m_place m_numbered m_depth m_value m_isNot m_least0 m_most0 m_slot (m_work + 1) m_got m_rowMany m_charAt m_charWide m_trail m_isMatch m_matchGroups m_allFrom m_allBefore m_founds m_pieces m_writtenMany m_templateWide m_tooMuch)) ∧ cc o G2 128 328 (za 300 WP2) ∧ cc o G2 129 329 (za 300 WD2) ∧ cc o G2 130 330 (za 300 WT2) ∧ cc o G2 131 331 (za 300 WG2) ∧ cc o G2 132 332 (za 300 WS2) ∧ cc o G2 119 319 (za 75000 N2) ∧ cc o G2 120 320 (za 75000 W2) ∧ (rgs WP2 300 0 4199) ∧ (rgs WD2 300 0 31) ∧ (rgs WT2 300 0 39968) ∧ (rgs WG2 300 0 39968) ∧ (rgs WS2 300 0 4300) ∧ (fsm WP WD WT WG WS WP2 WD2 WT2 WG2 WS2 w) ∧ (WP2 m_work = c2) ∧ (WD2 m_work = WD w) ∧ (WT2 m_work = t2) ∧ (WG2 m_work = t2) ∧ (WS2 m_work = 0) ∧ (WP2 w = WP w) ∧ (WD2 w = WD w) ∧ (WT2 w = WT w) ∧ (WG2 w = u2) ∧ (WS2 w = (WS w + 1)) ∧ (c2 = Fi (WP w)) ∧ (t2 = WG w) ∧ (u2 = WG w) ∧ (0 < Le (WP w)) ∧ (rgs N2 75000 (-1) 12499) ∧ (rgs W2 75000 (-1) 12499) ∧ (clr N W N2 W2 (12500 * m_slot) n1 (WD w + 1) (SN m_slot)) ∧ (clx N2 W2 RO m_slot n1 (WD w + 1) (LZ (WP w)) m_got (WT w)))) := by
  refine ab_F_of (by decide +kernel) (Nat.le_of_ble_eq_true rfl) ?_
  obtain ⟨Q, hQ⟩ : ∃ z : Outcome → ab_G → Prop, z = (fun oc G2 => (∃ g2 : Int, ∃ WP2 : Int → Int, ∃ WD2 : Int → Int, ∃ WT2 : Int → Int, ∃ WG2 : Int → Int, ∃ WS2 : Int → Int, ∃ N2 : Int → Int, ∃ W2 : Int → Int, oc = .returned none ∧ fx o o [280, 328, 329, 330, 331, 332, 319, 320] G G2 ∧ G2.length = G.length ∧ ab_slots G2 = ab_slots G ∧ cc o G2 80 280 (ab_ob 12 (mof m_thrown m_taped m_length m_out m_wide m_gathered m_sets m_ranges m_nodes m_at m_flags m_fault m_place m_numbered m_depth m_value m_isNot m_least0 m_most0 m_slot (m_work - 1) g2 m_rowMany m_charAt m_charWide m_trail m_isMatch m_matchGroups m_allFrom m_allBefore m_founds m_pieces m_writtenMany m_templateWide m_tooMuch)) ∧ cc o G2 128 328 (za 300 WP2) ∧ cc o G2 129 329 (za 300 WD2) ∧ cc o G2 130 330 (za 300 WT2) ∧ cc o G2 131 331 (za 300 WG2) ∧ cc o G2 132 332 (za 300 WS2) ∧ cc o G2 119 319 (za 75000 N2) ∧ cc o G2 120 320 (za 75000 W2) ∧ (rgs WP2 300 0 4199) ∧ (rgs WD2 300 0 31) ∧ (rgs WT2 300 0 39968) ∧ (rgs WG2 300 0 39968) ∧ (rgs WS2 300 0 4300) ∧ (fsm WP WD WT WG WS WP2 WD2 WT2 WG2 WS2 w) ∧ (g2 = WG w) ∧ (Le (WP w) = 0) ∧ (rgs N2 75000 (-1) 12499) ∧ (rgs W2 75000 (-1) 12499) ∧ (clr N W N2 W2 (12500 * m_slot) n1 (WD w + 1) (SN m_slot)) ∧ (clx N2 W2 RO m_slot n1 (WD w + 1) (LZ (WP w)) m_got (WT w))) ∨ (∃ c2 : Int, ∃ t2 : Int, ∃ u2 : Int, ∃ WP2 : Int → Int, ∃ WD2 : Int → Int, ∃ WT2 : Int → Int, ∃ WG2 : Int → Int, ∃ WS2 : Int → Int, ∃ N2 : Int → Int, ∃ W2 : Int → Int, oc = .returned none ∧ fx o o [280, 328, 329, 330, 331, 332, 319, 320] G G2 ∧ G2.length = G.length ∧ ab_slots G2 = ab_slots G ∧ cc o G2 80 280 (ab_ob 12 (mof m_thrown m_taped m_length m_out m_wide m_gathered m_sets m_ranges m_nodes m_at m_flags m_fault m_place m_numbered m_depth m_value m_isNot m_least0 m_most0 m_slot (m_work + 1) m_got m_rowMany m_charAt m_charWide m_trail m_isMatch m_matchGroups m_allFrom m_allBefore m_founds m_pieces m_writtenMany m_templateWide m_tooMuch)) ∧ cc o G2 128 328 (za 300 WP2) ∧ cc o G2 129 329 (za 300 WD2) ∧ cc o G2 130 330 (za 300 WT2) ∧ cc o G2 131 331 (za 300 WG2) ∧ cc o G2 132 332 (za 300 WS2) ∧ cc o G2 119 319 (za 75000 N2) ∧ cc o G2 120 320 (za 75000 W2) ∧ (rgs WP2 300 0 4199) ∧ (rgs WD2 300 0 31) ∧ (rgs WT2 300 0 39968) ∧ (rgs WG2 300 0 39968) ∧ (rgs WS2 300 0 4300) ∧ (fsm WP WD WT WG WS WP2 WD2 WT2 WG2 WS2 w) ∧ (WP2 m_work = c2) ∧ (WD2 m_work = WD w) ∧ (WT2 m_work = t2) ∧ (WG2 m_work = t2) ∧ (WS2 m_work = 0) ∧ (WP2 w = WP w) ∧ (WD2 w = WD w) ∧ (WT2 w = WT w) ∧ (WG2 w = u2) ∧ (WS2 w = (WS w + 1)) ∧ (c2 = Fi (WP w)) ∧ (t2 = WG w) ∧ (u2 = WG w) ∧ (0 < Le (WP w)) ∧ (rgs N2 75000 (-1) 12499) ∧ (rgs W2 75000 (-1) 12499) ∧ (clr N W N2 W2 (12500 * m_slot) n1 (WD w + 1) (SN m_slot)) ∧ (clx N2 W2 RO m_slot n1 (WD w + 1) (LZ (WP w)) m_got (WT w)))) := ⟨_, rfl⟩
  rw [← hQ]
  change ab_W X (ab_pl y_MO_goRepeat b_MO_goRepeat 6 none) d G 0 [some (vR 80), some (vz w), none, none, none, none] [] Q
  have hfr : fx o o [280, 328, 329, 330, 331, 332, 319, 320] G G := fx.rf
  have hlen : G.length = G.length := rfl
  have hsl : ab_slots G = ab_slots G := rfl
  refine ab_aload_n d_MO_goRepeat_0 rfl ?_
  refine ab_getf (fs := mof m_thrown m_taped m_length m_out m_wide m_gathered m_sets m_ranges m_nodes m_at m_flags m_fault m_place m_numbered m_depth m_value m_isNot m_least0 m_most0 m_slot m_work m_got m_rowMany m_charAt m_charWide m_trail m_isMatch m_matchGroups m_allFrom m_allBefore m_founds m_pieces m_writtenMany m_templateWide m_tooMuch) f_MO_158 d_MO_goRepeat_1 h80.2.2 rfl ?_
  refine ab_iload_n d_MO_goRepeat_4 rfl ?_
  refine zz_iald d_MO_goRepeat_5 h128 (by omega) ?_
  have hq1 := gwp w (by omega) (by omega)
  refine ab_istore_n d_MO_goRepeat_6 (Nat.le_of_ble_eq_true rfl) (Nat.le_of_ble_eq_true rfl) rfl ?_
  change ab_W _ _ _ G 7 [some (vR 80), some (vz w), some (vz (WP w)), none, none, none] [] _
  refine ab_aload_n d_MO_goRepeat_7 rfl ?_
  refine ab_getf (fs := mof m_thrown m_taped m_length m_out m_wide m_gathered m_sets m_ranges m_nodes m_at m_flags m_fault m_place m_numbered m_depth m_value m_isNot m_least0 m_most0 m_slot m_work m_got m_rowMany m_charAt m_charWide m_trail m_isMatch m_matchGroups m_allFrom m_allBefore m_founds m_pieces m_writtenMany m_templateWide m_tooMuch) f_MO_170 d_MO_goRepeat_8 h80.2.2 rfl ?_
  refine ab_iload_n d_MO_goRepeat_11 rfl ?_
  refine zz_iald d_MO_goRepeat_12 h132 (by omega) ?_
  have hq2 := gws w (by omega) (by omega)
  refine ab_istore_n d_MO_goRepeat_13 (Nat.le_of_ble_eq_true rfl) (Nat.le_of_ble_eq_true rfl) rfl ?_
  change ab_W _ _ _ G 14 [some (vR 80), some (vz w), some (vz (WP w)), some (vz (WS w)), none, none] [] _
  refine ab_aload_n d_MO_goRepeat_14 rfl ?_
  refine ab_getf (fs := mof m_thrown m_taped m_length m_out m_wide m_gathered m_sets m_ranges m_nodes m_at m_flags m_fault m_place m_numbered m_depth m_value m_isNot m_least0 m_most0 m_slot m_work m_got m_rowMany m_charAt m_charWide m_trail m_isMatch m_matchGroups m_allFrom m_allBefore m_founds m_pieces m_writtenMany m_templateWide m_tooMuch) f_MO_65 d_MO_goRepeat_15 h80.2.2 rfl ?_
  refine ab_iload_n d_MO_goRepeat_18 rfl ?_
  refine zz_iald d_MO_goRepeat_19 h99 (by omega) ?_
  have hq3 := jmo (WP w) (by omega) (by omega)
  refine zz_if_ge (tgt := 27) d_MO_goRepeat_20 (by decide) (by omega) (fun c4 => absurd c4 (by omega)) (fun c4 => ?_)
  refine zz_iconst d_MO_goRepeat_23 ?_
  refine ab_goto (tgt := 28) d_MO_goRepeat_24 (by decide) ?_
  refine ab_istore d_MO_goRepeat_28 (Nat.le_of_ble_eq_true rfl) (Nat.le_of_ble_eq_true rfl) rfl ?_
  change ab_W _ _ _ G 30 [some (vR 80), some (vz w), some (vz (WP w)), some (vz (WS w)), some (vz 1), none] [] _
  refine ab_iload d_MO_goRepeat_30 rfl ?_
  refine zz_if_eq (tgt := 39) d_MO_goRepeat_32 (by decide) (by decide) (fun c5 => absurd c5 (by decide)) (fun c5 => ?_)
  refine zz_iconst d_MO_goRepeat_35 ?_
  refine ab_goto (tgt := 52) d_MO_goRepeat_36 (by decide) ?_
  refine ab_istore d_MO_goRepeat_52 (Nat.le_of_ble_eq_true rfl) (Nat.le_of_ble_eq_true rfl) rfl ?_
  change ab_W _ _ _ G 54 [some (vR 80), some (vz w), some (vz (WP w)), some (vz (WS w)), some (vz 1), some (vz 1)] [] _
  refine ab_iload d_MO_goRepeat_54 rfl ?_
  refine zz_if_eq (tgt := 69) d_MO_goRepeat_56 (by decide) (by decide) (fun c6 => absurd c6 (by decide)) (fun c6 => ?_)
  refine ab_iload_n d_MO_goRepeat_59 rfl ?_
  refine zz_if_ne (tgt := 69) d_MO_goRepeat_60 (by decide) (by omega) (fun c7 => ?_) (fun c7 => absurd c7 (by omega))
  refine ab_iload d_MO_goRepeat_69 rfl ?_
  refine zz_if_eq (tgt := 87) d_MO_goRepeat_71 (by decide) (by decide) (fun c8 => absurd c8 (by decide)) (fun c8 => ?_)
  refine ab_iload_n d_MO_goRepeat_74 rfl ?_
  refine zz_iconst d_MO_goRepeat_75 ?_
  refine zz_icmp_ne (tgt := 87) d_MO_goRepeat_76 (by decide) (by omega) (by decide) (fun c9 => absurd c9 (by omega)) (fun c9 => ?_)
  refine ab_aload_n d_MO_goRepeat_79 rfl ?_
  refine ab_iload_n d_MO_goRepeat_80 rfl ?_
  refine ab_callV (d' := d - 1) (as := [vz w]) (st := []) (r := _) (z_MO_closeRound (o := o) (m_thrown := m_thrown) (m_taped := m_taped) (m_length := m_length) (m_out := m_out) (m_wide := m_wide) (m_gathered := m_gathered) (m_sets := m_sets) (m_ranges := m_ranges) (m_nodes := m_nodes) (m_at := m_at) (m_flags := m_flags) (m_fault := m_fault) (m_place := m_place) (m_numbered := m_numbered) (m_depth := m_depth) (m_value := m_value) (m_isNot := m_isNot) (m_least0 := m_least0) (m_most0 := m_most0) (m_slot := m_slot) (m_work := m_work) (m_got := m_got) (m_rowMany := m_rowMany) (m_charAt := m_charAt) (m_charWide := m_charWide) (m_trail := m_trail) (m_isMatch := m_isMatch) (m_matchGroups := m_matchGroups) (m_allFrom := m_allFrom) (m_allBefore := m_allBefore) (m_founds := m_founds) (m_pieces := m_pieces) (m_writtenMany := m_writtenMany) (m_templateWide := m_templateWide) (m_tooMuch := m_tooMuch) (N := N) (W := W) (SN := SN) (RO := RO) (WP := WP) (WD := WD) (WT := WT) (WG := WG) (LZ := LZ) (w := w) (n1 := n1) h80 h101 h133 h119 h120 h129 h131 h130 h128 (by omega) (by omega) gro jlz (by omega) jwq jto jgo gn gw (by omega)) (fun oc G2 h => by rcases h with ⟨_, _, h, _⟩ <;> exact ⟨_, h⟩) (by omega) m_MO_closeRound ml_MO_477 im_MO_closeRound se_MO_closeRound c_MO h80.2.2 (Nat.le_of_ble_eq_true rfl) d_MO_goRepeat_81 rfl ?_
  intro v G10 hq
  rcases hq with ⟨N211, W212, hv, hfk, hlk, hsk, hN119, hN120, hq13, hq14, hq15, hq16⟩
  cases hv
  have h80 := hfk.get h80 (by decide)
  have h94 := hfk.get h94 (by decide)
  have h95 := hfk.get h95 (by decide)
  have h96 := hfk.get h96 (by decide)
  have h97 := hfk.get h97 (by decide)
  have h98 := hfk.get h98 (by decide)
  have h99 := hfk.get h99 (by decide)
  have h100 := hfk.get h100 (by decide)
  have h101 := hfk.get h101 (by decide)
  have h90 := hfk.get h90 (by decide)
  have h89 := hfk.get h89 (by decide)
  have h91 := hfk.get h91 (by decide)
  have h92 := hfk.get h92 (by decide)
  have h118 := hfk.get h118 (by decide)
  have h121 := hfk.get h121 (by decide)
  have h122 := hfk.get h122 (by decide)
  have h123 := hfk.get h123 (by decide)
  have h124 := hfk.get h124 (by decide)
  have h117 := hfk.get h117 (by decide)
  have h125 := hfk.get h125 (by decide)
  have h133 := hfk.get h133 (by decide)
  have h128 := hfk.get h128 (by decide)
  have h129 := hfk.get h129 (by decide)
  have h130 := hfk.get h130 (by decide)
  have h131 := hfk.get h131 (by decide)
  have h132 := hfk.get h132 (by decide)
  have hfr := hfr.tr hfk (by decide)
  have hlen := hlk.trans hlen
  have hsl := hsk.trans hsl
  have h119 := hN119
  have h120 := hN120
  change ab_W _ _ _ G10 84 [some (vR 80), some (vz w), some (vz (WP w)), some (vz (WS w)), some (vz 1), some (vz 1)] [] _
  refine ab_goto (tgt := 143) d_MO_goRepeat_84 (by decide) ?_
  refine ab_iload_n d_MO_goRepeat_143 rfl ?_
  refine ab_iload d_MO_goRepeat_144 rfl ?_
  refine ab_aload_n d_MO_goRepeat_146 rfl ?_
  refine ab_getf (fs := mof m_thrown m_taped m_length m_out m_wide m_gathered m_sets m_ranges m_nodes m_at m_flags m_fault m_place m_numbered m_depth m_value m_isNot m_least0 m_most0 m_slot m_work m_got m_rowMany m_charAt m_charWide m_trail m_isMatch m_matchGroups m_allFrom m_allBefore m_founds m_pieces m_writtenMany m_templateWide m_tooMuch) f_MO_62 d_MO_goRepeat_147 h80.2.2 rfl ?_
  refine ab_iload_n d_MO_goRepeat_150 rfl ?_
  refine zz_iald d_MO_goRepeat_151 h98 (by omega) ?_
  have hq17 := jle (WP w) (by omega) (by omega)
  refine zz_iadd d_MO_goRepeat_152 ?_
  refine zz_icmp_lt (tgt := 167) d_MO_goRepeat_153 (by decide) (by omega) (by omega) (fun c18 => ?_) (fun c18 => ?_)
  · refine ab_aload_n d_MO_goRepeat_167 rfl ?_
    refine ab_getf (fs := mof m_thrown m_taped m_length m_out m_wide m_gathered m_sets m_ranges m_nodes m_at m_flags m_fault m_place m_numbered m_depth m_value m_isNot m_least0 m_most0 m_slot m_work m_got m_rowMany m_charAt m_charWide m_trail m_isMatch m_matchGroups m_allFrom m_allBefore m_founds m_pieces m_writtenMany m_templateWide m_tooMuch) f_MO_170 d_MO_goRepeat_168 h80.2.2 rfl ?_
    refine ab_iload_n d_MO_goRepeat_171 rfl ?_
    refine ab_iload_n d_MO_goRepeat_172 rfl ?_
    refine zz_iconst d_MO_goRepeat_173 ?_
    refine zz_iadd d_MO_goRepeat_174 ?_
    refine zz_iast d_MO_goRepeat_175 h132 (by omega) (h132.2.1 (by decide)) ?_
    obtain ⟨G19, eG19⟩ : ∃ z : ab_G, z = List.set G10 132 (za 300 (zu WS w ((WS w) + 1))) := ⟨_, rfl⟩
    have h80 := h80.keep h132 eG19 (by decide)
    have h94 := h94.keep h132 eG19 (by decide)
    have h95 := h95.keep h132 eG19 (by decide)
    have h96 := h96.keep h132 eG19 (by decide)
    have h97 := h97.keep h132 eG19 (by decide)
    have h98 := h98.keep h132 eG19 (by decide)
    have h99 := h99.keep h132 eG19 (by decide)
    have h100 := h100.keep h132 eG19 (by decide)
    have h101 := h101.keep h132 eG19 (by decide)
    have h90 := h90.keep h132 eG19 (by decide)
    have h89 := h89.keep h132 eG19 (by decide)
    have h91 := h91.keep h132 eG19 (by decide)
    have h92 := h92.keep h132 eG19 (by decide)
    have h118 := h118.keep h132 eG19 (by decide)
    have h119 := h119.keep h132 eG19 (by decide)
    have h120 := h120.keep h132 eG19 (by decide)
    have h121 := h121.keep h132 eG19 (by decide)
    have h122 := h122.keep h132 eG19 (by decide)
    have h123 := h123.keep h132 eG19 (by decide)
    have h124 := h124.keep h132 eG19 (by decide)
    have h117 := h117.keep h132 eG19 (by decide)
    have h125 := h125.keep h132 eG19 (by decide)
    have h133 := h133.keep h132 eG19 (by decide)
    have h128 := h128.keep h132 eG19 (by decide)
    have h129 := h129.keep h132 eG19 (by decide)
    have h130 := h130.keep h132 eG19 (by decide)
    have h131 := h131.keep h132 eG19 (by decide)
    have hlen := (z_len eG19).trans hlen
    have hsl := (z_sl h132 eG19 rfl).trans hsl
    have hfr := hfr.wr h132 eG19 (by decide)
    have h132 := h132.kept eG19
    change ab_W _ _ _ (List.set G10 132 (za 300 (zu WS w ((WS w) + 1)))) 176 [some (vR 80), some (vz w), some (vz (WP w)), some (vz (WS w)), some (vz 1), some (vz 1)] [] _
    rw [← eG19]
    refine ab_aload_n d_MO_goRepeat_176 rfl ?_
    refine ab_aload_n d_MO_goRepeat_177 rfl ?_
    refine ab_getf (fs := mof m_thrown m_taped m_length m_out m_wide m_gathered m_sets m_ranges m_nodes m_at m_flags m_fault m_place m_numbered m_depth m_value m_isNot m_least0 m_most0 m_slot m_work m_got m_rowMany m_charAt m_charWide m_trail m_isMatch m_matchGroups m_allFrom m_allBefore m_founds m_pieces m_writtenMany m_templateWide m_tooMuch) f_MO_56 d_MO_goRepeat_178 h80.2.2 rfl ?_
    refine ab_iload_n d_MO_goRepeat_181 rfl ?_
    refine zz_iald d_MO_goRepeat_182 h96 (by omega) ?_
    have hq20 := jfi (WP w) (by omega) (by omega)
    refine ab_aload_n d_MO_goRepeat_183 rfl ?_
    refine ab_getf (fs := mof m_thrown m_taped m_length m_out m_wide m_gathered m_sets m_ranges m_nodes m_at m_flags m_fault m_place m_numbered m_depth m_value m_isNot m_least0 m_most0 m_slot m_work m_got m_rowMany m_charAt m_charWide m_trail m_isMatch m_matchGroups m_allFrom m_allBefore m_founds m_pieces m_writtenMany m_templateWide m_tooMuch) f_MO_161 d_MO_goRepeat_184 h80.2.2 rfl ?_
    refine ab_iload_n d_MO_goRepeat_187 rfl ?_
    refine zz_iald d_MO_goRepeat_188 h129 (by omega) ?_
    have hq21 := gwd w (by omega) (by omega)
    refine ab_aload_n d_MO_goRepeat_189 rfl ?_
    refine ab_getf (fs := mof m_thrown m_taped m_length m_out m_wide m_gathered m_sets m_ranges m_nodes m_at m_flags m_fault m_place m_numbered m_depth m_value m_isNot m_least0 m_most0 m_slot m_work m_got m_rowMany m_charAt m_charWide m_trail m_isMatch m_matchGroups m_allFrom m_allBefore m_founds m_pieces m_writtenMany m_templateWide m_tooMuch) f_MO_167 d_MO_goRepeat_190 h80.2.2 rfl ?_
    refine ab_iload_n d_MO_goRepeat_193 rfl ?_
    refine zz_iald d_MO_goRepeat_194 h131 (by omega) ?_
    have hq22 := gwg w (by omega) (by omega)
    refine ab_callV (d' := d - 1) (as := [vz (Fi (WP w)), vz (WD w), vz (WG w)]) (st := []) (r := _) (z_MO_open (o := o) (m_thrown := m_thrown) (m_taped := m_taped) (m_length := m_length) (m_out := m_out) (m_wide := m_wide) (m_gathered := m_gathered) (m_sets := m_sets) (m_ranges := m_ranges) (m_nodes := m_nodes) (m_at := m_at) (m_flags := m_flags) (m_fault := m_fault) (m_place := m_place) (m_numbered := m_numbered) (m_depth := m_depth) (m_value := m_value) (m_isNot := m_isNot) (m_least0 := m_least0) (m_most0 := m_most0) (m_slot := m_slot) (m_work := m_work) (m_got := m_got) (m_rowMany := m_rowMany) (m_charAt := m_charAt) (m_charWide := m_charWide) (m_trail := m_trail) (m_isMatch := m_isMatch) (m_matchGroups := m_matchGroups) (m_allFrom := m_allFrom) (m_allBefore := m_allBefore) (m_founds := m_founds) (m_pieces := m_pieces) (m_writtenMany := m_writtenMany) (m_templateWide := m_templateWide) (m_tooMuch := m_tooMuch) (WP := WP) (WD := WD) (WT := WT) (WG := WG) (WS := (zu WS w ((WS w) + 1))) (to := (WG w)) (x := (Fi (WP w))) (y := (WD w)) h80 h128 h129 h130 h131 h132 (by omega) (by omega)) (fun oc G2 h => by rcases h with ⟨h, _⟩ <;> exact ⟨_, h⟩) (by omega) m_MO_open ml_MO_464 im_MO_open se_MO_open c_MO h80.2.2 (Nat.le_of_ble_eq_true rfl) d_MO_goRepeat_195 rfl ?_
    intro v G23 hq
    rcases hq with ⟨hv, hfk, hlk, hsk, hN80, hN128, hN129, hN130, hN131, hN132⟩
    cases hv
    have h94 := hfk.get h94 (by decide)
    have h95 := hfk.get h95 (by decide)
    have h96 := hfk.get h96 (by decide)
    have h97 := hfk.get h97 (by decide)
    have h98 := hfk.get h98 (by decide)
    have h99 := hfk.get h99 (by decide)
    have h100 := hfk.get h100 (by decide)
    have h101 := hfk.get h101 (by decide)
    have h90 := hfk.get h90 (by decide)
    have h89 := hfk.get h89 (by decide)
    have h91 := hfk.get h91 (by decide)
    have h92 := hfk.get h92 (by decide)
    have h118 := hfk.get h118 (by decide)
    have h119 := hfk.get h119 (by decide)
    have h120 := hfk.get h120 (by decide)
    have h121 := hfk.get h121 (by decide)
    have h122 := hfk.get h122 (by decide)
    have h123 := hfk.get h123 (by decide)
    have h124 := hfk.get h124 (by decide)
    have h117 := hfk.get h117 (by decide)
    have h125 := hfk.get h125 (by decide)
    have h133 := hfk.get h133 (by decide)
    have hfr := hfr.tr hfk (by decide)
    have hlen := hlk.trans hlen
    have hsl := hsk.trans hsl
    have h80 := hN80
    have h128 := hN128
    have h129 := hN129
    have h130 := hN130
    have h131 := hN131
    have h132 := hN132
    change ab_W _ _ _ G23 198 [some (vR 80), some (vz w), some (vz (WP w)), some (vz (WS w)), some (vz 1), some (vz 1)] [] _
    refine ab_vret rfl d_MO_goRepeat_198 ?_
    rw [hQ]; exact (Or.inr ⟨_, _, (WG w), _, _, _, _, _, _, _, rfl, hfr, hlen, hsl, h80, h128, h129, h130, h131, h132, h119, h120, (by first | exact (rgs_zu gwp (by omega)) | exact rgs_w (rgs_zu gwp (by omega)) (by omega)), (by first | exact (rgs_zu gwd (by omega)) | exact rgs_w (rgs_zu gwd (by omega)) (by omega)), (by first | exact (rgs_zu gwt (by omega)) | exact rgs_w (rgs_zu gwt (by omega)) (by omega)), (by first | exact (rgs_zu gwg (by omega)) | exact rgs_w (rgs_zu gwg (by omega)) (by omega)), (by first | exact (rgs_zu (rgs_zu gws (by omega)) (by omega)) | exact rgs_w (rgs_zu (rgs_zu gws (by omega)) (by omega)) (by omega)), (by exact fun j_ a_ => ⟨by rw [zu_ne (by omega)], by rw [zu_ne (by omega)], by rw [zu_ne (by omega)], by rw [zu_ne (by omega)], by rw [zu_ne (by omega), zu_ne (by omega)]⟩), (by rw [zu_self]), (by rw [zu_self]), (by rw [zu_self]), (by rw [zu_self]), (by rw [zu_self]), (by rw [zu_ne (show w ≠ m_work by omega)]), (by rw [zu_ne (show w ≠ m_work by omega)]), (by rw [zu_ne (show w ≠ m_work by omega)]), (by rw [zu_ne (show w ≠ m_work by omega)]), (by rw [zu_ne (show w ≠ m_work by omega), zu_self] <;> omega), (by first | rfl | (rw [zu_self]; done) | omega), (by first | rfl | (rw [zu_self]; done) | omega), (by first | rfl | (rw [zu_self]; done) | omega), (by omega), (by first | exact hq13 | exact rgs_w hq13 (by omega)), (by first | exact hq14 | exact rgs_w hq14 (by omega)), (by exact hq15), (by exact hq16)⟩)
  · refine ab_aload_n d_MO_goRepeat_156 rfl ?_
    refine ab_aload_n d_MO_goRepeat_157 rfl ?_
    refine ab_getf (fs := mof m_thrown m_taped m_length m_out m_wide m_gathered m_sets m_ranges m_nodes m_at m_flags m_fault m_place m_numbered m_depth m_value m_isNot m_least0 m_most0 m_slot m_work m_got m_rowMany m_charAt m_charWide m_trail m_isMatch m_matchGroups m_allFrom m_allBefore m_founds m_pieces m_writtenMany m_templateWide m_tooMuch) f_MO_167 d_MO_goRepeat_158 h80.2.2 rfl ?_
    refine ab_iload_n d_MO_goRepeat_161 rfl ?_
    refine zz_iald d_MO_goRepeat_162 h131 (by omega) ?_
    have hq24 := gwg w (by omega) (by omega)
    refine ab_callV (d' := d - 1) (as := [vz (WG w)]) (st := []) (r := _) (z_MO_done (o := o) (m_thrown := m_thrown) (m_taped := m_taped) (m_length := m_length) (m_out := m_out) (m_wide := m_wide) (m_gathered := m_gathered) (m_sets := m_sets) (m_ranges := m_ranges) (m_nodes := m_nodes) (m_at := m_at) (m_flags := m_flags) (m_fault := m_fault) (m_place := m_place) (m_numbered := m_numbered) (m_depth := m_depth) (m_value := m_value) (m_isNot := m_isNot) (m_least0 := m_least0) (m_most0 := m_most0) (m_slot := m_slot) (m_work := m_work) (m_got := m_got) (m_rowMany := m_rowMany) (m_charAt := m_charAt) (m_charWide := m_charWide) (m_trail := m_trail) (m_isMatch := m_isMatch) (m_matchGroups := m_matchGroups) (m_allFrom := m_allFrom) (m_allBefore := m_allBefore) (m_founds := m_founds) (m_pieces := m_pieces) (m_writtenMany := m_writtenMany) (m_templateWide := m_templateWide) (m_tooMuch := m_tooMuch) (x := (WG w)) h80 (by omega)) (fun oc G2 h => by rcases h with ⟨h, _⟩ <;> exact ⟨_, h⟩) (by omega) m_MO_done ml_MO_461 im_MO_done se_MO_done c_MO h80.2.2 (Nat.le_of_ble_eq_true rfl) d_MO_goRepeat_163 rfl ?_
    intro v G25 hq
    rcases hq with ⟨hv, hfk, hlk, hsk, hN80⟩
    cases hv
    have h94 := hfk.get h94 (by decide)
    have h95 := hfk.get h95 (by decide)
    have h96 := hfk.get h96 (by decide)
    have h97 := hfk.get h97 (by decide)
    have h98 := hfk.get h98 (by decide)
    have h99 := hfk.get h99 (by decide)
    have h100 := hfk.get h100 (by decide)
    have h101 := hfk.get h101 (by decide)
    have h90 := hfk.get h90 (by decide)
    have h89 := hfk.get h89 (by decide)
    have h91 := hfk.get h91 (by decide)
    have h92 := hfk.get h92 (by decide)
    have h118 := hfk.get h118 (by decide)
    have h119 := hfk.get h119 (by decide)
    have h120 := hfk.get h120 (by decide)
    have h121 := hfk.get h121 (by decide)
    have h122 := hfk.get h122 (by decide)
    have h123 := hfk.get h123 (by decide)
    have h124 := hfk.get h124 (by decide)
    have h117 := hfk.get h117 (by decide)
    have h125 := hfk.get h125 (by decide)
    have h133 := hfk.get h133 (by decide)
    have h128 := hfk.get h128 (by decide)
    have h129 := hfk.get h129 (by decide)
    have h130 := hfk.get h130 (by decide)
    have h131 := hfk.get h131 (by decide)
    have h132 := hfk.get h132 (by decide)
    have hfr := hfr.tr hfk (by decide)
    have hlen := hlk.trans hlen
    have hsl := hsk.trans hsl
    have h80 := hN80
    change ab_W _ _ _ G25 166 [some (vR 80), some (vz w), some (vz (WP w)), some (vz (WS w)), some (vz 1), some (vz 1)] [] _
    refine ab_vret rfl d_MO_goRepeat_166 ?_
    rw [hQ]; exact (Or.inl ⟨_, _, _, _, _, _, _, _, rfl, hfr, hlen, hsl, h80, h128, h129, h130, h131, h132, h119, h120, (by first | exact gwp | exact rgs_w gwp (by omega)), (by first | exact gwd | exact rgs_w gwd (by omega)), (by first | exact gwt | exact rgs_w gwt (by omega)), (by first | exact gwg | exact rgs_w gwg (by omega)), (by first | exact gws | exact rgs_w gws (by omega)), (by exact fun j_ a_ => ⟨rfl, rfl, rfl, rfl, rfl⟩), (by first | rfl | (rw [zu_self]; done) | omega), (by omega), (by first | exact hq13 | exact rgs_w hq13 (by omega)), (by first | exact hq14 | exact rgs_w hq14 (by omega)), (by exact hq15), (by exact hq16)⟩)
set_option maxRecDepth 100000 in
set_option maxHeartbeats 4000000 in
theorem z_MO_goRepeat_n {X : ab_X} {d : Nat} {o : Nat → Nat} {G : ab_G} {m_thrown : Int} {m_taped : Int} {m_length : Int} {m_out : Int} {m_wide : Int} {m_gathered : Int} {m_sets : Int} {m_ranges : Int} {m_nodes : Int} {m_at : Int} {m_flags : Int} {m_fault : Int} {m_place : Int} {m_numbered : Int} {m_depth : Int} {m_value : Int} {m_isNot : Int} {m_least0 : Int} {m_most0 : Int} {m_slot : Int} {m_work : Int} {m_got : Int} {m_rowMany : Int} {m_charAt : Int} {m_charWide : Int} {m_trail : Int} {m_isMatch : Int} {m_matchGroups : Int} {m_allFrom : Int} {m_allBefore : Int} {m_founds : Int} {m_pieces : Int} {m_writtenMany : Int} {m_templateWide : Int} {m_tooMuch : Int} {T : Int → Int} {N : Int → Int} {W : Int → Int} {CA : Int → Int} {CM : Int → Int} {CL : Int → Int} {CH : Int → Int} {SN : Int → Int} {CC : Int → Int} {RO : Int → Int} {WP : Int → Int} {WD : Int → Int} {WT : Int → Int} {WG : Int → Int} {WS : Int → Int} {K : Int → Int} {O : Int → Int} {Fi : Int → Int} {Be : Int → Int} {Le : Int → Int} {Mo : Int → Int} {Z : Int → Int} {LZ : Int → Int} {SM : Int → Int} {SA : Int → Int} {RL : Int → Int} {RH : Int → Int} {w : Int} {ns : Int} {nd : Int} (h80 : cc o G 80 280 (ab_ob 12 (mof m_thrown m_taped m_length m_out m_wide m_gathered m_sets m_ranges m_nodes m_at m_flags m_fault m_place m_numbered m_depth m_value m_isNot m_least0 m_most0 m_slot m_work m_got m_rowMany m_charAt m_charWide m_trail m_isMatch m_matchGroups m_allFrom m_allBefore m_founds m_pieces m_writtenMany m_templateWide m_tooMuch))) (h94 : cc o G 94 294 (za 4200 K)) (h95 : cc o G 95 295 (za 4200 O)) (h96 : cc o G 96 296 (za 4200 Fi)) (h97 : cc o G 97 297 (za 4200 Be)) (h98 : cc o G 98 298 (za 4200 Le)) (h99 : cc o G 99 299 (za 4200 Mo)) (h100 : cc o G 100 300 (zl 4200 Z)) (h101 : cc o G 101 301 (zb 4200 LZ)) (h90 : cc o G 90 290 (za 2100 SM)) (h89 : cc o G 89 289 (za 2100 SA)) (h91 : cc o G 91 291 (za 24000 RL)) (h92 : cc o G 92 292 (za 24000 RH)) (h118 : cc o G 118 318 (za 75000 T)) (h119 : cc o G 119 319 (za 75000 N)) (h120 : cc o G 120 320 (za 75000 W)) (h121 : cc o G 121 321 (za 75000 CA)) (h122 : cc o G 122 322 (za 75000 CM)) (h123 : cc o G 123 323 (za 3600 CL)) (h124 : cc o G 124 324 (za 3600 CH)) (h117 : cc o G 117 317 (za 6 SN)) (h125 : cc o G 125 325 (za 6 CC)) (h133 : cc o G 133 333 (za 40000 RO)) (h128 : cc o G 128 328 (za 300 WP)) (h129 : cc o G 129 329 (za 300 WD)) (h130 : cc o G 130 330 (za 300 WT)) (h131 : cc o G 131 331 (za 300 WG)) (h132 : cc o G 132 332 (za 300 WS)) (n18 : ab_n0 = 18) (csl : 0 ≤ m_slot ∧ m_slot ≤ 5) (jrl : rgs RL 24000 0 1114111) (jrh : rgs RH 24000 0 1114111) (jk : rgs K 4200 0 7) (jo : rgs O 4200 (-1) 3000) (jfi : rgs Fi 4200 (-1) 4199) (jbe : rgs Be 4200 (-1) 4199) (jle : rgs Le 4200 0 1000) (jmo : rgs Mo 4200 (-1) 1000) (jz : rgs Z 4200 (-1) 1000000000000) (jlz : rgs LZ 4200 0 1) (jsm : rgs SM 2100 0 24000) (jsa : rgs SA 2100 0 24000) (gt : rgs T 75000 0 6) (gn : rgs N 75000 (-1) 12499) (gw : rgs W 75000 (-1) 12499) (gca : rgs CA 75000 0 3600) (gcm : rgs CM 75000 0 24000) (gcl : rgs CL 3600 0 1114111) (gch : rgs CH 3600 0 1114111) (gsn : rgs SN 6 0 12500) (gcc : rgs CC 6 0 600) (gro : rgs RO 40000 0 12499) (gwp : rgs WP 300 0 4199) (gwd : rgs WD 300 0 31) (gwt : rgs WT 300 0 39968) (gwg : rgs WG 300 0 39968) (gws : rgs WS 300 0 4300) (jka : tka T W CA CM SM SA RL RH CL CH (12500 * m_slot) (SN m_slot) m_slot (CC m_slot) ns) (jss : sas SA SM ns) (cst : 0 ≤ m_rowMany ∧ m_rowMany ≤ 1250 ∧ 0 ≤ (SN m_slot) ∧ (SN m_slot) ≤ 12500 ∧ 0 ≤ ns ∧ ns ≤ 2100) (cw : 0 ≤ w ∧ m_work = w + 1 ∧ w < 299) (cx : 0 ≤ WP w ∧ WP w < nd ∧ 0 ≤ nd ∧ nd ≤ 4200 ∧ 0 ≤ WD w ∧ WD w ≤ 31 ∧ 0 ≤ WT w ∧ WT w + 32 ≤ 32 * m_rowMany) (cgo : 0 ≤ m_got ∧ m_got + 32 ≤ 32 * m_rowMany) (ck : K (WP w) = 7) (cfi : 0 ≤ Fi (WP w) ∧ Fi (WP w) < nd) (clm : 0 ≤ Le (WP w) ∧ Le (WP w) ≤ 100 ∧ -1 ≤ Mo (WP w) ∧ Mo (WP w) ≤ 100) (cws : 0 ≤ WS w ∧ WS w ≤ 300) (cs0 : (Mo (WP w) < 0 ∧ 2 ≤ WS w) ∨ (0 ≤ Mo (WP w) ∧ Mo (WP w) - Le (WP w) < WS w ∧ 1 ≤ WS w)) (hd : 5 ≤ d) : ab_F X d y_MO_goRepeat (.code y_MO_goRepeat b_MO_goRepeat 6 none) [vR 80, vz w] G (fun oc G2 => (∃ g2 : Int, ∃ WP2 : Int → Int, ∃ WD2 : Int → Int, ∃ WT2 : Int → Int, ∃ WG2 : Int → Int, ∃ WS2 : Int → Int, oc = .returned none ∧ fx o o [280, 328, 329, 330, 331, 332] G G2 ∧ G2.length = G.length ∧ ab_slots G2 = ab_slots G ∧ cc o G2 80 280 (ab_ob 12 (mof m_thrown m_taped m_length m_out m_wide m_gathered m_sets m_ranges m_nodes m_at m_flags m_fault m_place m_numbered m_depth m_value m_isNot m_least0 m_most0 m_slot (m_work - 1) g2 m_rowMany m_charAt m_charWide m_trail m_isMatch m_matchGroups m_allFrom m_allBefore m_founds m_pieces m_writtenMany m_templateWide m_tooMuch)) ∧ cc o G2 128 328 (za 300 WP2) ∧ cc o G2 129 329 (za 300 WD2) ∧ cc o G2 130 330 (za 300 WT2) ∧ cc o G2 131 331 (za 300 WG2) ∧ cc o G2 132 332 (za 300 WS2) ∧ (rgs WP2 300 0 4199) ∧ (rgs WD2 300 0 31) ∧ (rgs WT2 300 0 39968) ∧ (rgs WG2 300 0 39968) ∧ (rgs WS2 300 0 4300) ∧ (fsm WP WD WT WG WS WP2 WD2 WT2 WG2 WS2 w) ∧ (g2 = m_got) ∧ ((Mo (WP w) < 0 ∧ 1 + Le (WP w) ≤ WS w) ∨ (0 ≤ Mo (WP w) ∧ Mo (WP w) ≤ WS w))) ∨ (∃ c2 : Int, ∃ t2 : Int, ∃ u2 : Int, ∃ WP2 : Int → Int, ∃ WD2 : Int → Int, ∃ WT2 : Int → Int, ∃ WG2 : Int → Int, ∃ WS2 : Int → Int, oc = .returned none ∧ fx o o [280, 328, 329, 330, 331, 332] G G2 ∧ G2.length = G.length ∧ ab_slots G2 = ab_slots G ∧ cc o G2 80 280 (ab_ob 12 (mof m_thrown m_taped m_length m_out m_wide m_gathered m_sets m_ranges m_nodes m_at m_flags m_fault m_place m_numbered m_depth m_value m_isNot m_least0 m_most0 m_slot (m_work + 1) m_got m_rowMany m_charAt m_charWide m_trail m_isMatch m_matchGroups m_allFrom m_allBefore m_founds m_pieces m_writtenMany m_templateWide m_tooMuch)) ∧ cc o G2 128 328 (za 300 WP2) ∧ cc o G2 129 329 (za 300 WD2) ∧ cc o G2 130 330 (za 300 WT2) ∧ cc o G2 131 331 (za 300 WG2) ∧ cc o G2 132 332 (za 300 WS2) ∧ (rgs WP2 300 0 4199) ∧ (rgs WD2 300 0 31) ∧ (rgs WT2 300 0 39968) ∧ (rgs WG2 300 0 39968) ∧ (rgs WS2 300 0 4300) ∧ (fsm WP WD WT WG WS WP2 WD2 WT2 WG2 WS2 w) ∧ (WP2 m_work = c2) ∧ (WD2 m_work = WD w) ∧ (WT2 m_work = t2) ∧ (WG2 m_work = t2) ∧ (WS2 m_work = 0) ∧ (WP2 w = WP w) ∧ (WD2 w = WD w) ∧ (WT2 w = WT w) ∧ (WG2 w = u2) ∧ (WS2 w = (WS w + 1)) ∧ (c2 = Fi (WP w)) ∧ (t2 = m_got) ∧ (u2 = m_got) ∧ ((Mo (WP w) < 0 ∧ WS w < 1 + Le (WP w)) ∨ (0 ≤ Mo (WP w) ∧ WS w < Mo (WP w))))) := by
  refine ab_F_of (by decide +kernel) (Nat.le_of_ble_eq_true rfl) ?_
  obtain ⟨Q, hQ⟩ : ∃ z : Outcome → ab_G → Prop, z = (fun oc G2 => (∃ g2 : Int, ∃ WP2 : Int → Int, ∃ WD2 : Int → Int, ∃ WT2 : Int → Int, ∃ WG2 : Int → Int, ∃ WS2 : Int → Int, oc = .returned none ∧ fx o o [280, 328, 329, 330, 331, 332] G G2 ∧ G2.length = G.length ∧ ab_slots G2 = ab_slots G ∧ cc o G2 80 280 (ab_ob 12 (mof m_thrown m_taped m_length m_out m_wide m_gathered m_sets m_ranges m_nodes m_at m_flags m_fault m_place m_numbered m_depth m_value m_isNot m_least0 m_most0 m_slot (m_work - 1) g2 m_rowMany m_charAt m_charWide m_trail m_isMatch m_matchGroups m_allFrom m_allBefore m_founds m_pieces m_writtenMany m_templateWide m_tooMuch)) ∧ cc o G2 128 328 (za 300 WP2) ∧ cc o G2 129 329 (za 300 WD2) ∧ cc o G2 130 330 (za 300 WT2) ∧ cc o G2 131 331 (za 300 WG2) ∧ cc o G2 132 332 (za 300 WS2) ∧ (rgs WP2 300 0 4199) ∧ (rgs WD2 300 0 31) ∧ (rgs WT2 300 0 39968) ∧ (rgs WG2 300 0 39968) ∧ (rgs WS2 300 0 4300) ∧ (fsm WP WD WT WG WS WP2 WD2 WT2 WG2 WS2 w) ∧ (g2 = m_got) ∧ ((Mo (WP w) < 0 ∧ 1 + Le (WP w) ≤ WS w) ∨ (0 ≤ Mo (WP w) ∧ Mo (WP w) ≤ WS w))) ∨ (∃ c2 : Int, ∃ t2 : Int, ∃ u2 : Int, ∃ WP2 : Int → Int, ∃ WD2 : Int → Int, ∃ WT2 : Int → Int, ∃ WG2 : Int → Int, ∃ WS2 : Int → Int, oc = .returned none ∧ fx o o [280, 328, 329, 330, 331, 332] G G2 ∧ G2.length = G.length ∧ ab_slots G2 = ab_slots G ∧ cc o G2 80 280 (ab_ob 12 (mof m_thrown m_taped m_length m_out m_wide m_gathered m_sets m_ranges m_nodes m_at m_flags m_fault m_place m_numbered m_depth m_value m_isNot m_least0 m_most0 m_slot (m_work + 1) m_got m_rowMany m_charAt m_charWide m_trail m_isMatch m_matchGroups m_allFrom m_allBefore m_founds m_pieces m_writtenMany m_templateWide m_tooMuch)) ∧ cc o G2 128 328 (za 300 WP2) ∧ cc o G2 129 329 (za 300 WD2) ∧ cc o G2 130 330 (za 300 WT2) ∧ cc o G2 131 331 (za 300 WG2) ∧ cc o G2 132 332 (za 300 WS2) ∧ (rgs WP2 300 0 4199) ∧ (rgs WD2 300 0 31) ∧ (rgs WT2 300 0 39968) ∧ (rgs WG2 300 0 39968) ∧ (rgs WS2 300 0 4300) ∧ (fsm WP WD WT WG WS WP2 WD2 WT2 WG2 WS2 w) ∧ (WP2 m_work = c2) ∧ (WD2 m_work = WD w) ∧ (WT2 m_work = t2) ∧ (WG2 m_work = t2) ∧ (WS2 m_work = 0) ∧ (WP2 w = WP w) ∧ (WD2 w = WD w) ∧ (WT2 w = WT w) ∧ (WG2 w = u2) ∧ (WS2 w = (WS w + 1)) ∧ (c2 = Fi (WP w)) ∧ (t2 = m_got) ∧ (u2 = m_got) ∧ ((Mo (WP w) < 0 ∧ WS w < 1 + Le (WP w)) ∨ (0 ≤ Mo (WP w) ∧ WS w < Mo (WP w))))) := ⟨_, rfl⟩
  rw [← hQ]
  change ab_W X (ab_pl y_MO_goRepeat b_MO_goRepeat 6 none) d G 0 [some (vR 80), some (vz w), none, none, none, none] [] Q
  have hfr : fx o o [280, 328, 329, 330, 331, 332] G G := fx.rf
  have hlen : G.length = G.length := rfl
  have hsl : ab_slots G = ab_slots G := rfl
  refine ab_aload_n d_MO_goRepeat_0 rfl ?_
  refine ab_getf (fs := mof m_thrown m_taped m_length m_out m_wide m_gathered m_sets m_ranges m_nodes m_at m_flags m_fault m_place m_numbered m_depth m_value m_isNot m_least0 m_most0 m_slot m_work m_got m_rowMany m_charAt m_charWide m_trail m_isMatch m_matchGroups m_allFrom m_allBefore m_founds m_pieces m_writtenMany m_templateWide m_tooMuch) f_MO_158 d_MO_goRepeat_1 h80.2.2 rfl ?_
  refine ab_iload_n d_MO_goRepeat_4 rfl ?_
  refine zz_iald d_MO_goRepeat_5 h128 (by omega) ?_
  have hq1 := gwp w (by omega) (by omega)
  refine ab_istore_n d_MO_goRepeat_6 (Nat.le_of_ble_eq_true rfl) (Nat.le_of_ble_eq_true rfl) rfl ?_
  change ab_W _ _ _ G 7 [some (vR 80), some (vz w), some (vz (WP w)), none, none, none] [] _
  refine ab_aload_n d_MO_goRepeat_7 rfl ?_
  refine ab_getf (fs := mof m_thrown m_taped m_length m_out m_wide m_gathered m_sets m_ranges m_nodes m_at m_flags m_fault m_place m_numbered m_depth m_value m_isNot m_least0 m_most0 m_slot m_work m_got m_rowMany m_charAt m_charWide m_trail m_isMatch m_matchGroups m_allFrom m_allBefore m_founds m_pieces m_writtenMany m_templateWide m_tooMuch) f_MO_170 d_MO_goRepeat_8 h80.2.2 rfl ?_
  refine ab_iload_n d_MO_goRepeat_11 rfl ?_
  refine zz_iald d_MO_goRepeat_12 h132 (by omega) ?_
  have hq2 := gws w (by omega) (by omega)
  refine ab_istore_n d_MO_goRepeat_13 (Nat.le_of_ble_eq_true rfl) (Nat.le_of_ble_eq_true rfl) rfl ?_
  change ab_W _ _ _ G 14 [some (vR 80), some (vz w), some (vz (WP w)), some (vz (WS w)), none, none] [] _
  refine ab_aload_n d_MO_goRepeat_14 rfl ?_
  refine ab_getf (fs := mof m_thrown m_taped m_length m_out m_wide m_gathered m_sets m_ranges m_nodes m_at m_flags m_fault m_place m_numbered m_depth m_value m_isNot m_least0 m_most0 m_slot m_work m_got m_rowMany m_charAt m_charWide m_trail m_isMatch m_matchGroups m_allFrom m_allBefore m_founds m_pieces m_writtenMany m_templateWide m_tooMuch) f_MO_65 d_MO_goRepeat_15 h80.2.2 rfl ?_
  refine ab_iload_n d_MO_goRepeat_18 rfl ?_
  refine zz_iald d_MO_goRepeat_19 h99 (by omega) ?_
  have hq3 := jmo (WP w) (by omega) (by omega)
  refine zz_if_ge (tgt := 27) d_MO_goRepeat_20 (by decide) (by omega) (fun c4 => ?_) (fun c4 => ?_)
  · refine zz_iconst d_MO_goRepeat_27 ?_
    refine ab_istore d_MO_goRepeat_28 (Nat.le_of_ble_eq_true rfl) (Nat.le_of_ble_eq_true rfl) rfl ?_
    change ab_W _ _ _ G 30 [some (vR 80), some (vz w), some (vz (WP w)), some (vz (WS w)), some (vz 0), none] [] _
    refine ab_iload d_MO_goRepeat_30 rfl ?_
    refine zz_if_eq (tgt := 39) d_MO_goRepeat_32 (by decide) (by decide) (fun c5 => ?_) (fun c5 => absurd c5 (by decide))
    refine ab_aload_n d_MO_goRepeat_39 rfl ?_
    refine ab_getf (fs := mof m_thrown m_taped m_length m_out m_wide m_gathered m_sets m_ranges m_nodes m_at m_flags m_fault m_place m_numbered m_depth m_value m_isNot m_least0 m_most0 m_slot m_work m_got m_rowMany m_charAt m_charWide m_trail m_isMatch m_matchGroups m_allFrom m_allBefore m_founds m_pieces m_writtenMany m_templateWide m_tooMuch) f_MO_65 d_MO_goRepeat_40 h80.2.2 rfl ?_
    refine ab_iload_n d_MO_goRepeat_43 rfl ?_
    refine zz_iald d_MO_goRepeat_44 h99 (by omega) ?_
    have hq6 := jmo (WP w) (by omega) (by omega)
    refine ab_aload_n d_MO_goRepeat_45 rfl ?_
    refine ab_getf (fs := mof m_thrown m_taped m_length m_out m_wide m_gathered m_sets m_ranges m_nodes m_at m_flags m_fault m_place m_numbered m_depth m_value m_isNot m_least0 m_most0 m_slot m_work m_got m_rowMany m_charAt m_charWide m_trail m_isMatch m_matchGroups m_allFrom m_allBefore m_founds m_pieces m_writtenMany m_templateWide m_tooMuch) f_MO_62 d_MO_goRepeat_46 h80.2.2 rfl ?_
    refine ab_iload_n d_MO_goRepeat_49 rfl ?_
    refine zz_iald d_MO_goRepeat_50 h98 (by omega) ?_
    have hq7 := jle (WP w) (by omega) (by omega)
    refine zz_isub d_MO_goRepeat_51 ?_
    refine ab_istore d_MO_goRepeat_52 (Nat.le_of_ble_eq_true rfl) (Nat.le_of_ble_eq_true rfl) rfl ?_
    change ab_W _ _ _ G 54 [some (vR 80), some (vz w), some (vz (WP w)), some (vz (WS w)), some (vz 0), some (vz ((Mo (WP w)) - (Le (WP w))))] [] _
    refine ab_iload d_MO_goRepeat_54 rfl ?_
    refine zz_if_eq (tgt := 69) d_MO_goRepeat_56 (by decide) (by decide) (fun c8 => ?_) (fun c8 => absurd c8 (by decide))
    refine ab_iload d_MO_goRepeat_69 rfl ?_
    refine zz_if_eq (tgt := 87) d_MO_goRepeat_71 (by decide) (by decide) (fun c9 => ?_) (fun c9 => absurd c9 (by decide))
    refine ab_iload_n d_MO_goRepeat_87 rfl ?_
    refine zz_if_le (tgt := 127) d_MO_goRepeat_88 (by decide) (by omega) (fun c10 => absurd c10 (by omega)) (fun c10 => ?_)
    refine ab_iload_n d_MO_goRepeat_91 rfl ?_
    refine ab_iload d_MO_goRepeat_92 rfl ?_
    refine zz_icmp_gt (tgt := 127) d_MO_goRepeat_94 (by decide) (by omega) (by omega) (fun c11 => ?_) (fun c11 => absurd c11 (by omega))
    refine ab_iload_n d_MO_goRepeat_127 rfl ?_
    refine ab_iload d_MO_goRepeat_128 rfl ?_
    refine zz_icmp_le (tgt := 143) d_MO_goRepeat_130 (by decide) (by omega) (by omega) (fun c12 => absurd c12 (by omega)) (fun c12 => ?_)
    refine ab_aload_n d_MO_goRepeat_133 rfl ?_
    refine ab_getf (fs := mof m_thrown m_taped m_length m_out m_wide m_gathered m_sets m_ranges m_nodes m_at m_flags m_fault m_place m_numbered m_depth m_value m_isNot m_least0 m_most0 m_slot m_work m_got m_rowMany m_charAt m_charWide m_trail m_isMatch m_matchGroups m_allFrom m_allBefore m_founds m_pieces m_writtenMany m_templateWide m_tooMuch) f_MO_167 d_MO_goRepeat_134 h80.2.2 rfl ?_
    refine ab_iload_n d_MO_goRepeat_137 rfl ?_
    refine ab_aload_n d_MO_goRepeat_138 rfl ?_
    refine ab_getf (fs := mof m_thrown m_taped m_length m_out m_wide m_gathered m_sets m_ranges m_nodes m_at m_flags m_fault m_place m_numbered m_depth m_value m_isNot m_least0 m_most0 m_slot m_work m_got m_rowMany m_charAt m_charWide m_trail m_isMatch m_matchGroups m_allFrom m_allBefore m_founds m_pieces m_writtenMany m_templateWide m_tooMuch) f_MO_448 d_MO_goRepeat_139 h80.2.2 rfl ?_
    refine zz_iast d_MO_goRepeat_142 h131 (by omega) (h131.2.1 (by decide)) ?_
    obtain ⟨G13, eG13⟩ : ∃ z : ab_G, z = List.set G 131 (za 300 (zu WG w m_got)) := ⟨_, rfl⟩
    have h80 := h80.keep h131 eG13 (by decide)
    have h94 := h94.keep h131 eG13 (by decide)
    have h95 := h95.keep h131 eG13 (by decide)
    have h96 := h96.keep h131 eG13 (by decide)
    have h97 := h97.keep h131 eG13 (by decide)
    have h98 := h98.keep h131 eG13 (by decide)
    have h99 := h99.keep h131 eG13 (by decide)
    have h100 := h100.keep h131 eG13 (by decide)
    have h101 := h101.keep h131 eG13 (by decide)
    have h90 := h90.keep h131 eG13 (by decide)
    have h89 := h89.keep h131 eG13 (by decide)
    have h91 := h91.keep h131 eG13 (by decide)
    have h92 := h92.keep h131 eG13 (by decide)
    have h118 := h118.keep h131 eG13 (by decide)
    have h119 := h119.keep h131 eG13 (by decide)
    have h120 := h120.keep h131 eG13 (by decide)
    have h121 := h121.keep h131 eG13 (by decide)
    have h122 := h122.keep h131 eG13 (by decide)
    have h123 := h123.keep h131 eG13 (by decide)
    have h124 := h124.keep h131 eG13 (by decide)
    have h117 := h117.keep h131 eG13 (by decide)
    have h125 := h125.keep h131 eG13 (by decide)
    have h133 := h133.keep h131 eG13 (by decide)
    have h128 := h128.keep h131 eG13 (by decide)
    have h129 := h129.keep h131 eG13 (by decide)
    have h130 := h130.keep h131 eG13 (by decide)
    have h132 := h132.keep h131 eG13 (by decide)
    have hlen := (z_len eG13).trans hlen
    have hsl := (z_sl h131 eG13 rfl).trans hsl
    have hfr := hfr.wr h131 eG13 (by decide)
    have h131 := h131.kept eG13
    change ab_W _ _ _ (List.set G 131 (za 300 (zu WG w m_got))) 143 [some (vR 80), some (vz w), some (vz (WP w)), some (vz (WS w)), some (vz 0), some (vz ((Mo (WP w)) - (Le (WP w))))] [] _
    rw [← eG13]
    refine ab_iload_n d_MO_goRepeat_143 rfl ?_
    refine ab_iload d_MO_goRepeat_144 rfl ?_
    refine ab_aload_n d_MO_goRepeat_146 rfl ?_
    refine ab_getf (fs := mof m_thrown m_taped m_length m_out m_wide m_gathered m_sets m_ranges m_nodes m_at m_flags m_fault m_place m_numbered m_depth m_value m_isNot m_least0 m_most0 m_slot m_work m_got m_rowMany m_charAt m_charWide m_trail m_isMatch m_matchGroups m_allFrom m_allBefore m_founds m_pieces m_writtenMany m_templateWide m_tooMuch) f_MO_62 d_MO_goRepeat_147 h80.2.2 rfl ?_
    refine ab_iload_n d_MO_goRepeat_150 rfl ?_
    refine zz_iald d_MO_goRepeat_151 h98 (by omega) ?_
    have hq14 := jle (WP w) (by omega) (by omega)
    refine zz_iadd d_MO_goRepeat_152 ?_
    refine zz_icmp_lt (tgt := 167) d_MO_goRepeat_153 (by decide) (by omega) (by omega) (fun c15 => ?_) (fun c15 => ?_)
    · refine ab_aload_n d_MO_goRepeat_167 rfl ?_
      refine ab_getf (fs := mof m_thrown m_taped m_length m_out m_wide m_gathered m_sets m_ranges m_nodes m_at m_flags m_fault m_place m_numbered m_depth m_value m_isNot m_least0 m_most0 m_slot m_work m_got m_rowMany m_charAt m_charWide m_trail m_isMatch m_matchGroups m_allFrom m_allBefore m_founds m_pieces m_writtenMany m_templateWide m_tooMuch) f_MO_170 d_MO_goRepeat_168 h80.2.2 rfl ?_
      refine ab_iload_n d_MO_goRepeat_171 rfl ?_
      refine ab_iload_n d_MO_goRepeat_172 rfl ?_
      refine zz_iconst d_MO_goRepeat_173 ?_
      refine zz_iadd d_MO_goRepeat_174 ?_
      refine zz_iast d_MO_goRepeat_175 h132 (by omega) (h132.2.1 (by decide)) ?_
      obtain ⟨G16, eG16⟩ : ∃ z : ab_G, z = List.set G13 132 (za 300 (zu WS w ((WS w) + 1))) := ⟨_, rfl⟩
      have h80 := h80.keep h132 eG16 (by decide)
      have h94 := h94.keep h132 eG16 (by decide)
      have h95 := h95.keep h132 eG16 (by decide)
      have h96 := h96.keep h132 eG16 (by decide)
      have h97 := h97.keep h132 eG16 (by decide)
      have h98 := h98.keep h132 eG16 (by decide)
      have h99 := h99.keep h132 eG16 (by decide)
      have h100 := h100.keep h132 eG16 (by decide)
      have h101 := h101.keep h132 eG16 (by decide)
      have h90 := h90.keep h132 eG16 (by decide)
      have h89 := h89.keep h132 eG16 (by decide)
      have h91 := h91.keep h132 eG16 (by decide)
      have h92 := h92.keep h132 eG16 (by decide)
      have h118 := h118.keep h132 eG16 (by decide)
      have h119 := h119.keep h132 eG16 (by decide)
      have h120 := h120.keep h132 eG16 (by decide)
      have h121 := h121.keep h132 eG16 (by decide)
      have h122 := h122.keep h132 eG16 (by decide)
      have h123 := h123.keep h132 eG16 (by decide)
      have h124 := h124.keep h132 eG16 (by decide)
      have h117 := h117.keep h132 eG16 (by decide)
      have h125 := h125.keep h132 eG16 (by decide)
      have h133 := h133.keep h132 eG16 (by decide)
      have h128 := h128.keep h132 eG16 (by decide)
      have h129 := h129.keep h132 eG16 (by decide)
      have h130 := h130.keep h132 eG16 (by decide)
      have h131 := h131.keep h132 eG16 (by decide)
      have hlen := (z_len eG16).trans hlen
      have hsl := (z_sl h132 eG16 rfl).trans hsl
      have hfr := hfr.wr h132 eG16 (by decide)
      have h132 := h132.kept eG16
      change ab_W _ _ _ (List.set G13 132 (za 300 (zu WS w ((WS w) + 1)))) 176 [some (vR 80), some (vz w), some (vz (WP w)), some (vz (WS w)), some (vz 0), some (vz ((Mo (WP w)) - (Le (WP w))))] [] _
      rw [← eG16]
      refine ab_aload_n d_MO_goRepeat_176 rfl ?_
      refine ab_aload_n d_MO_goRepeat_177 rfl ?_
      refine ab_getf (fs := mof m_thrown m_taped m_length m_out m_wide m_gathered m_sets m_ranges m_nodes m_at m_flags m_fault m_place m_numbered m_depth m_value m_isNot m_least0 m_most0 m_slot m_work m_got m_rowMany m_charAt m_charWide m_trail m_isMatch m_matchGroups m_allFrom m_allBefore m_founds m_pieces m_writtenMany m_templateWide m_tooMuch) f_MO_56 d_MO_goRepeat_178 h80.2.2 rfl ?_
      refine ab_iload_n d_MO_goRepeat_181 rfl ?_
      refine zz_iald d_MO_goRepeat_182 h96 (by omega) ?_
      have hq17 := jfi (WP w) (by omega) (by omega)
      refine ab_aload_n d_MO_goRepeat_183 rfl ?_
      refine ab_getf (fs := mof m_thrown m_taped m_length m_out m_wide m_gathered m_sets m_ranges m_nodes m_at m_flags m_fault m_place m_numbered m_depth m_value m_isNot m_least0 m_most0 m_slot m_work m_got m_rowMany m_charAt m_charWide m_trail m_isMatch m_matchGroups m_allFrom m_allBefore m_founds m_pieces m_writtenMany m_templateWide m_tooMuch) f_MO_161 d_MO_goRepeat_184 h80.2.2 rfl ?_
      refine ab_iload_n d_MO_goRepeat_187 rfl ?_
      refine zz_iald d_MO_goRepeat_188 h129 (by omega) ?_
      have hq18 := gwd w (by omega) (by omega)
      refine ab_aload_n d_MO_goRepeat_189 rfl ?_
      refine ab_getf (fs := mof m_thrown m_taped m_length m_out m_wide m_gathered m_sets m_ranges m_nodes m_at m_flags m_fault m_place m_numbered m_depth m_value m_isNot m_least0 m_most0 m_slot m_work m_got m_rowMany m_charAt m_charWide m_trail m_isMatch m_matchGroups m_allFrom m_allBefore m_founds m_pieces m_writtenMany m_templateWide m_tooMuch) f_MO_167 d_MO_goRepeat_190 h80.2.2 rfl ?_
      refine ab_iload_n d_MO_goRepeat_193 rfl ?_
      refine zz_iald d_MO_goRepeat_194 h131 (by omega) ?_
      refine zz_top (zu_self _ _ _) ?_
      refine ab_callV (d' := d - 1) (as := [vz (Fi (WP w)), vz (WD w), vz m_got]) (st := []) (r := _) (z_MO_open (o := o) (m_thrown := m_thrown) (m_taped := m_taped) (m_length := m_length) (m_out := m_out) (m_wide := m_wide) (m_gathered := m_gathered) (m_sets := m_sets) (m_ranges := m_ranges) (m_nodes := m_nodes) (m_at := m_at) (m_flags := m_flags) (m_fault := m_fault) (m_place := m_place) (m_numbered := m_numbered) (m_depth := m_depth) (m_value := m_value) (m_isNot := m_isNot) (m_least0 := m_least0) (m_most0 := m_most0) (m_slot := m_slot) (m_work := m_work) (m_got := m_got) (m_rowMany := m_rowMany) (m_charAt := m_charAt) (m_charWide := m_charWide) (m_trail := m_trail) (m_isMatch := m_isMatch) (m_matchGroups := m_matchGroups) (m_allFrom := m_allFrom) (m_allBefore := m_allBefore) (m_founds := m_founds) (m_pieces := m_pieces) (m_writtenMany := m_writtenMany) (m_templateWide := m_templateWide) (m_tooMuch := m_tooMuch) (WP := WP) (WD := WD) (WT := WT) (WG := (zu WG w m_got)) (WS := (zu WS w ((WS w) + 1))) (to := m_got) (x := (Fi (WP w))) (y := (WD w)) h80 h128 h129 h130 h131 h132 (by omega) (by omega)) (fun oc G2 h => by rcases h with ⟨h, _⟩ <;> exact ⟨_, h⟩) (by omega) m_MO_open ml_MO_464 im_MO_open se_MO_open c_MO h80.2.2 (Nat.le_of_ble_eq_true rfl) d_MO_goRepeat_195 rfl ?_
      intro v G19 hq
      rcases hq with ⟨hv, hfk, hlk, hsk, hN80, hN128, hN129, hN130, hN131, hN132⟩
      cases hv
      have h94 := hfk.get h94 (by decide)
      have h95 := hfk.get h95 (by decide)
      have h96 := hfk.get h96 (by decide)
      have h97 := hfk.get h97 (by decide)
      have h98 := hfk.get h98 (by decide)
      have h99 := hfk.get h99 (by decide)
      have h100 := hfk.get h100 (by decide)
      have h101 := hfk.get h101 (by decide)
      have h90 := hfk.get h90 (by decide)
      have h89 := hfk.get h89 (by decide)
      have h91 := hfk.get h91 (by decide)
      have h92 := hfk.get h92 (by decide)
      have h118 := hfk.get h118 (by decide)
      have h119 := hfk.get h119 (by decide)
      have h120 := hfk.get h120 (by decide)
      have h121 := hfk.get h121 (by decide)
      have h122 := hfk.get h122 (by decide)
      have h123 := hfk.get h123 (by decide)
      have h124 := hfk.get h124 (by decide)
      have h117 := hfk.get h117 (by decide)
      have h125 := hfk.get h125 (by decide)
      have h133 := hfk.get h133 (by decide)
      have hfr := hfr.tr hfk (by decide)
      have hlen := hlk.trans hlen
      have hsl := hsk.trans hsl
      have h80 := hN80
      have h128 := hN128
      have h129 := hN129
      have h130 := hN130
      have h131 := hN131
      have h132 := hN132
      change ab_W _ _ _ G19 198 [some (vR 80), some (vz w), some (vz (WP w)), some (vz (WS w)), some (vz 0), some (vz ((Mo (WP w)) - (Le (WP w))))] [] _
      refine ab_vret rfl d_MO_goRepeat_198 ?_
      rw [hQ]; exact (Or.inr ⟨_, _, m_got, _, _, _, _, _, rfl, hfr, hlen, hsl, h80, h128, h129, h130, h131, h132, (by first | exact (rgs_zu gwp (by omega)) | exact rgs_w (rgs_zu gwp (by omega)) (by omega)), (by first | exact (rgs_zu gwd (by omega)) | exact rgs_w (rgs_zu gwd (by omega)) (by omega)), (by first | exact (rgs_zu gwt (by omega)) | exact rgs_w (rgs_zu gwt (by omega)) (by omega)), (by first | exact (rgs_zu (rgs_zu gwg (by omega)) (by omega)) | exact rgs_w (rgs_zu (rgs_zu gwg (by omega)) (by omega)) (by omega)), (by first | exact (rgs_zu (rgs_zu gws (by omega)) (by omega)) | exact rgs_w (rgs_zu (rgs_zu gws (by omega)) (by omega)) (by omega)), (by exact fun j_ a_ => ⟨by rw [zu_ne (by omega)], by rw [zu_ne (by omega)], by rw [zu_ne (by omega)], by rw [zu_ne (by omega), zu_ne (by omega)], by rw [zu_ne (by omega), zu_ne (by omega)]⟩), (by rw [zu_self]), (by rw [zu_self]), (by rw [zu_self]), (by rw [zu_self]), (by rw [zu_self]), (by rw [zu_ne (show w ≠ m_work by omega)]), (by rw [zu_ne (show w ≠ m_work by omega)]), (by rw [zu_ne (show w ≠ m_work by omega)]), (by rw [zu_ne (show w ≠ m_work by omega), zu_self]), (by rw [zu_ne (show w ≠ m_work by omega), zu_self] <;> omega), (by first | rfl | (rw [zu_self]; done) | omega), (by first | rfl | (rw [zu_self]; done) | omega), (by first | rfl | (rw [zu_self]; done) | omega), (by omega)⟩)
    · refine ab_aload_n d_MO_goRepeat_156 rfl ?_
      refine ab_aload_n d_MO_goRepeat_157 rfl ?_
      refine ab_getf (fs := mof m_thrown m_taped m_length m_out m_wide m_gathered m_sets m_ranges m_nodes m_at m_flags m_fault m_place m_numbered m_depth m_value m_isNot m_least0 m_most0 m_slot m_work m_got m_rowMany m_charAt m_charWide m_trail m_isMatch m_matchGroups m_allFrom m_allBefore m_founds m_pieces m_writtenMany m_templateWide m_tooMuch) f_MO_167 d_MO_goRepeat_158 h80.2.2 rfl ?_
      refine ab_iload_n d_MO_goRepeat_161 rfl ?_
      refine zz_iald d_MO_goRepeat_162 h131 (by omega) ?_
      refine zz_top (zu_self _ _ _) ?_
      refine ab_callV (d' := d - 1) (as := [vz m_got]) (st := []) (r := _) (z_MO_done (o := o) (m_thrown := m_thrown) (m_taped := m_taped) (m_length := m_length) (m_out := m_out) (m_wide := m_wide) (m_gathered := m_gathered) (m_sets := m_sets) (m_ranges := m_ranges) (m_nodes := m_nodes) (m_at := m_at) (m_flags := m_flags) (m_fault := m_fault) (m_place := m_place) (m_numbered := m_numbered) (m_depth := m_depth) (m_value := m_value) (m_isNot := m_isNot) (m_least0 := m_least0) (m_most0 := m_most0) (m_slot := m_slot) (m_work := m_work) (m_got := m_got) (m_rowMany := m_rowMany) (m_charAt := m_charAt) (m_charWide := m_charWide) (m_trail := m_trail) (m_isMatch := m_isMatch) (m_matchGroups := m_matchGroups) (m_allFrom := m_allFrom) (m_allBefore := m_allBefore) (m_founds := m_founds) (m_pieces := m_pieces) (m_writtenMany := m_writtenMany) (m_templateWide := m_templateWide) (m_tooMuch := m_tooMuch) (x := m_got) h80 (by omega)) (fun oc G2 h => by rcases h with ⟨h, _⟩ <;> exact ⟨_, h⟩) (by omega) m_MO_done ml_MO_461 im_MO_done se_MO_done c_MO h80.2.2 (Nat.le_of_ble_eq_true rfl) d_MO_goRepeat_163 rfl ?_
      intro v G20 hq
      rcases hq with ⟨hv, hfk, hlk, hsk, hN80⟩
      cases hv
      have h94 := hfk.get h94 (by decide)
      have h95 := hfk.get h95 (by decide)
      have h96 := hfk.get h96 (by decide)
      have h97 := hfk.get h97 (by decide)
      have h98 := hfk.get h98 (by decide)
      have h99 := hfk.get h99 (by decide)
      have h100 := hfk.get h100 (by decide)
      have h101 := hfk.get h101 (by decide)
      have h90 := hfk.get h90 (by decide)
      have h89 := hfk.get h89 (by decide)
      have h91 := hfk.get h91 (by decide)
      have h92 := hfk.get h92 (by decide)
      have h118 := hfk.get h118 (by decide)
      have h119 := hfk.get h119 (by decide)
      have h120 := hfk.get h120 (by decide)
      have h121 := hfk.get h121 (by decide)
      have h122 := hfk.get h122 (by decide)
      have h123 := hfk.get h123 (by decide)
      have h124 := hfk.get h124 (by decide)
      have h117 := hfk.get h117 (by decide)
      have h125 := hfk.get h125 (by decide)
      have h133 := hfk.get h133 (by decide)
      have h128 := hfk.get h128 (by decide)
      have h129 := hfk.get h129 (by decide)
      have h130 := hfk.get h130 (by decide)
      have h131 := hfk.get h131 (by decide)
      have h132 := hfk.get h132 (by decide)
      have hfr := hfr.tr hfk (by decide)
      have hlen := hlk.trans hlen
      have hsl := hsk.trans hsl
      have h80 := hN80
      change ab_W _ _ _ G20 166 [some (vR 80), some (vz w), some (vz (WP w)), some (vz (WS w)), some (vz 0), some (vz ((Mo (WP w)) - (Le (WP w))))] [] _
      refine ab_vret rfl d_MO_goRepeat_166 ?_
      rw [hQ]; exact (Or.inl ⟨_, _, _, _, _, _, rfl, hfr, hlen, hsl, h80, h128, h129, h130, h131, h132, (by first | exact gwp | exact rgs_w gwp (by omega)), (by first | exact gwd | exact rgs_w gwd (by omega)), (by first | exact gwt | exact rgs_w gwt (by omega)), (by first | exact (rgs_zu gwg (by omega)) | exact rgs_w (rgs_zu gwg (by omega)) (by omega)), (by first | exact gws | exact rgs_w gws (by omega)), (by exact fun j_ a_ => ⟨rfl, rfl, rfl, by rw [zu_ne (by omega)], rfl⟩), (by first | rfl | (rw [zu_self]; done) | omega), (by omega)⟩)
  · refine zz_iconst d_MO_goRepeat_23 ?_
    refine ab_goto (tgt := 28) d_MO_goRepeat_24 (by decide) ?_
    refine ab_istore d_MO_goRepeat_28 (Nat.le_of_ble_eq_true rfl) (Nat.le_of_ble_eq_true rfl) rfl ?_
    change ab_W _ _ _ G 30 [some (vR 80), some (vz w), some (vz (WP w)), some (vz (WS w)), some (vz 1), none] [] _
    refine ab_iload d_MO_goRepeat_30 rfl ?_
    refine zz_if_eq (tgt := 39) d_MO_goRepeat_32 (by decide) (by decide) (fun c21 => absurd c21 (by decide)) (fun c21 => ?_)
    refine zz_iconst d_MO_goRepeat_35 ?_
    refine ab_goto (tgt := 52) d_MO_goRepeat_36 (by decide) ?_
    refine ab_istore d_MO_goRepeat_52 (Nat.le_of_ble_eq_true rfl) (Nat.le_of_ble_eq_true rfl) rfl ?_
    change ab_W _ _ _ G 54 [some (vR 80), some (vz w), some (vz (WP w)), some (vz (WS w)), some (vz 1), some (vz 1)] [] _
    refine ab_iload d_MO_goRepeat_54 rfl ?_
    refine zz_if_eq (tgt := 69) d_MO_goRepeat_56 (by decide) (by decide) (fun c22 => absurd c22 (by decide)) (fun c22 => ?_)
    refine ab_iload_n d_MO_goRepeat_59 rfl ?_
    refine zz_if_ne (tgt := 69) d_MO_goRepeat_60 (by decide) (by omega) (fun c23 => ?_) (fun c23 => absurd c23 (by omega))
    refine ab_iload d_MO_goRepeat_69 rfl ?_
    refine zz_if_eq (tgt := 87) d_MO_goRepeat_71 (by decide) (by decide) (fun c24 => absurd c24 (by decide)) (fun c24 => ?_)
    refine ab_iload_n d_MO_goRepeat_74 rfl ?_
    refine zz_iconst d_MO_goRepeat_75 ?_
    refine zz_icmp_ne (tgt := 87) d_MO_goRepeat_76 (by decide) (by omega) (by decide) (fun c25 => ?_) (fun c25 => absurd c25 (by omega))
    refine ab_iload_n d_MO_goRepeat_87 rfl ?_
    refine zz_if_le (tgt := 127) d_MO_goRepeat_88 (by decide) (by omega) (fun c26 => absurd c26 (by omega)) (fun c26 => ?_)
    refine ab_iload_n d_MO_goRepeat_91 rfl ?_
    refine ab_iload d_MO_goRepeat_92 rfl ?_
    refine zz_icmp_gt (tgt := 127) d_MO_goRepeat_94 (by decide) (by omega) (by decide) (fun c27 => ?_) (fun c27 => absurd c27 (by omega))
    refine ab_iload_n d_MO_goRepeat_127 rfl ?_
    refine ab_iload d_MO_goRepeat_128 rfl ?_
    refine zz_icmp_le (tgt := 143) d_MO_goRepeat_130 (by decide) (by omega) (by decide) (fun c28 => absurd c28 (by omega)) (fun c28 => ?_)
    refine ab_aload_n d_MO_goRepeat_133 rfl ?_
    refine ab_getf (fs := mof m_thrown m_taped m_length m_out m_wide m_gathered m_sets m_ranges m_nodes m_at m_flags m_fault m_place m_numbered m_depth m_value m_isNot m_least0 m_most0 m_slot m_work m_got m_rowMany m_charAt m_charWide m_trail m_isMatch m_matchGroups m_allFrom m_allBefore m_founds m_pieces m_writtenMany m_templateWide m_tooMuch) f_MO_167 d_MO_goRepeat_134 h80.2.2 rfl ?_
    refine ab_iload_n d_MO_goRepeat_137 rfl ?_
    refine ab_aload_n d_MO_goRepeat_138 rfl ?_
    refine ab_getf (fs := mof m_thrown m_taped m_length m_out m_wide m_gathered m_sets m_ranges m_nodes m_at m_flags m_fault m_place m_numbered m_depth m_value m_isNot m_least0 m_most0 m_slot m_work m_got m_rowMany m_charAt m_charWide m_trail m_isMatch m_matchGroups m_allFrom m_allBefore m_founds m_pieces m_writtenMany m_templateWide m_tooMuch) f_MO_448 d_MO_goRepeat_139 h80.2.2 rfl ?_
    refine zz_iast d_MO_goRepeat_142 h131 (by omega) (h131.2.1 (by decide)) ?_
    obtain ⟨G29, eG29⟩ : ∃ z : ab_G, z = List.set G 131 (za 300 (zu WG w m_got)) := ⟨_, rfl⟩
    have h80 := h80.keep h131 eG29 (by decide)
    have h94 := h94.keep h131 eG29 (by decide)
    have h95 := h95.keep h131 eG29 (by decide)
    have h96 := h96.keep h131 eG29 (by decide)
    have h97 := h97.keep h131 eG29 (by decide)
    have h98 := h98.keep h131 eG29 (by decide)
    have h99 := h99.keep h131 eG29 (by decide)
    have h100 := h100.keep h131 eG29 (by decide)
    have h101 := h101.keep h131 eG29 (by decide)
    have h90 := h90.keep h131 eG29 (by decide)
    have h89 := h89.keep h131 eG29 (by decide)
    have h91 := h91.keep h131 eG29 (by decide)
    have h92 := h92.keep h131 eG29 (by decide)
    have h118 := h118.keep h131 eG29 (by decide)
    have h119 := h119.keep h131 eG29 (by decide)
    have h120 := h120.keep h131 eG29 (by decide)
    have h121 := h121.keep h131 eG29 (by decide)
    have h122 := h122.keep h131 eG29 (by decide)
    have h123 := h123.keep h131 eG29 (by decide)
    have h124 := h124.keep h131 eG29 (by decide)
    have h117 := h117.keep h131 eG29 (by decide)
    have h125 := h125.keep h131 eG29 (by decide)
    have h133 := h133.keep h131 eG29 (by decide)
    have h128 := h128.keep h131 eG29 (by decide)
    have h129 := h129.keep h131 eG29 (by decide)
    have h130 := h130.keep h131 eG29 (by decide)
    have h132 := h132.keep h131 eG29 (by decide)
    have hlen := (z_len eG29).trans hlen
    have hsl := (z_sl h131 eG29 rfl).trans hsl
    have hfr := hfr.wr h131 eG29 (by decide)
    have h131 := h131.kept eG29
    change ab_W _ _ _ (List.set G 131 (za 300 (zu WG w m_got))) 143 [some (vR 80), some (vz w), some (vz (WP w)), some (vz (WS w)), some (vz 1), some (vz 1)] [] _
    rw [← eG29]
    refine ab_iload_n d_MO_goRepeat_143 rfl ?_
    refine ab_iload d_MO_goRepeat_144 rfl ?_
    refine ab_aload_n d_MO_goRepeat_146 rfl ?_
    refine ab_getf (fs := mof m_thrown m_taped m_length m_out m_wide m_gathered m_sets m_ranges m_nodes m_at m_flags m_fault m_place m_numbered m_depth m_value m_isNot m_least0 m_most0 m_slot m_work m_got m_rowMany m_charAt m_charWide m_trail m_isMatch m_matchGroups m_allFrom m_allBefore m_founds m_pieces m_writtenMany m_templateWide m_tooMuch) f_MO_62 d_MO_goRepeat_147 h80.2.2 rfl ?_
    refine ab_iload_n d_MO_goRepeat_150 rfl ?_
    refine zz_iald d_MO_goRepeat_151 h98 (by omega) ?_
    have hq30 := jle (WP w) (by omega) (by omega)
    refine zz_iadd d_MO_goRepeat_152 ?_
    refine zz_icmp_lt (tgt := 167) d_MO_goRepeat_153 (by decide) (by omega) (by omega) (fun c31 => ?_) (fun c31 => ?_)
    · refine ab_aload_n d_MO_goRepeat_167 rfl ?_
      refine ab_getf (fs := mof m_thrown m_taped m_length m_out m_wide m_gathered m_sets m_ranges m_nodes m_at m_flags m_fault m_place m_numbered m_depth m_value m_isNot m_least0 m_most0 m_slot m_work m_got m_rowMany m_charAt m_charWide m_trail m_isMatch m_matchGroups m_allFrom m_allBefore m_founds m_pieces m_writtenMany m_templateWide m_tooMuch) f_MO_170 d_MO_goRepeat_168 h80.2.2 rfl ?_
      refine ab_iload_n d_MO_goRepeat_171 rfl ?_
      refine ab_iload_n d_MO_goRepeat_172 rfl ?_
      refine zz_iconst d_MO_goRepeat_173 ?_
      refine zz_iadd d_MO_goRepeat_174 ?_
      refine zz_iast d_MO_goRepeat_175 h132 (by omega) (h132.2.1 (by decide)) ?_
      obtain ⟨G32, eG32⟩ : ∃ z : ab_G, z = List.set G29 132 (za 300 (zu WS w ((WS w) + 1))) := ⟨_, rfl⟩
      have h80 := h80.keep h132 eG32 (by decide)
      have h94 := h94.keep h132 eG32 (by decide)
      have h95 := h95.keep h132 eG32 (by decide)
      have h96 := h96.keep h132 eG32 (by decide)
      have h97 := h97.keep h132 eG32 (by decide)
      have h98 := h98.keep h132 eG32 (by decide)
      have h99 := h99.keep h132 eG32 (by decide)
      have h100 := h100.keep h132 eG32 (by decide)
      have h101 := h101.keep h132 eG32 (by decide)
      have h90 := h90.keep h132 eG32 (by decide)
      have h89 := h89.keep h132 eG32 (by decide)
      have h91 := h91.keep h132 eG32 (by decide)
      have h92 := h92.keep h132 eG32 (by decide)
      have h118 := h118.keep h132 eG32 (by decide)
      have h119 := h119.keep h132 eG32 (by decide)
      have h120 := h120.keep h132 eG32 (by decide)
      have h121 := h121.keep h132 eG32 (by decide)
      have h122 := h122.keep h132 eG32 (by decide)
      have h123 := h123.keep h132 eG32 (by decide)
      have h124 := h124.keep h132 eG32 (by decide)
      have h117 := h117.keep h132 eG32 (by decide)
      have h125 := h125.keep h132 eG32 (by decide)
      have h133 := h133.keep h132 eG32 (by decide)
      have h128 := h128.keep h132 eG32 (by decide)
      have h129 := h129.keep h132 eG32 (by decide)
      have h130 := h130.keep h132 eG32 (by decide)
      have h131 := h131.keep h132 eG32 (by decide)
      have hlen := (z_len eG32).trans hlen
      have hsl := (z_sl h132 eG32 rfl).trans hsl
      have hfr := hfr.wr h132 eG32 (by decide)
      have h132 := h132.kept eG32
      change ab_W _ _ _ (List.set G29 132 (za 300 (zu WS w ((WS w) + 1)))) 176 [some (vR 80), some (vz w), some (vz (WP w)), some (vz (WS w)), some (vz 1), some (vz 1)] [] _
      rw [← eG32]
      refine ab_aload_n d_MO_goRepeat_176 rfl ?_
      refine ab_aload_n d_MO_goRepeat_177 rfl ?_
      refine ab_getf (fs := mof m_thrown m_taped m_length m_out m_wide m_gathered m_sets m_ranges m_nodes m_at m_flags m_fault m_place m_numbered m_depth m_value m_isNot m_least0 m_most0 m_slot m_work m_got m_rowMany m_charAt m_charWide m_trail m_isMatch m_matchGroups m_allFrom m_allBefore m_founds m_pieces m_writtenMany m_templateWide m_tooMuch) f_MO_56 d_MO_goRepeat_178 h80.2.2 rfl ?_
      refine ab_iload_n d_MO_goRepeat_181 rfl ?_
      refine zz_iald d_MO_goRepeat_182 h96 (by omega) ?_
      have hq33 := jfi (WP w) (by omega) (by omega)
      refine ab_aload_n d_MO_goRepeat_183 rfl ?_
      refine ab_getf (fs := mof m_thrown m_taped m_length m_out m_wide m_gathered m_sets m_ranges m_nodes m_at m_flags m_fault m_place m_numbered m_depth m_value m_isNot m_least0 m_most0 m_slot m_work m_got m_rowMany m_charAt m_charWide m_trail m_isMatch m_matchGroups m_allFrom m_allBefore m_founds m_pieces m_writtenMany m_templateWide m_tooMuch) f_MO_161 d_MO_goRepeat_184 h80.2.2 rfl ?_
      refine ab_iload_n d_MO_goRepeat_187 rfl ?_
      refine zz_iald d_MO_goRepeat_188 h129 (by omega) ?_
      have hq34 := gwd w (by omega) (by omega)
      refine ab_aload_n d_MO_goRepeat_189 rfl ?_
      refine ab_getf (fs := mof m_thrown m_taped m_length m_out m_wide m_gathered m_sets m_ranges m_nodes m_at m_flags m_fault m_place m_numbered m_depth m_value m_isNot m_least0 m_most0 m_slot m_work m_got m_rowMany m_charAt m_charWide m_trail m_isMatch m_matchGroups m_allFrom m_allBefore m_founds m_pieces m_writtenMany m_templateWide m_tooMuch) f_MO_167 d_MO_goRepeat_190 h80.2.2 rfl ?_
      refine ab_iload_n d_MO_goRepeat_193 rfl ?_
      refine zz_iald d_MO_goRepeat_194 h131 (by omega) ?_
      refine zz_top (zu_self _ _ _) ?_
      refine ab_callV (d' := d - 1) (as := [vz (Fi (WP w)), vz (WD w), vz m_got]) (st := []) (r := _) (z_MO_open (o := o) (m_thrown := m_thrown) (m_taped := m_taped) (m_length := m_length) (m_out := m_out) (m_wide := m_wide) (m_gathered := m_gathered) (m_sets := m_sets) (m_ranges := m_ranges) (m_nodes := m_nodes) (m_at := m_at) (m_flags := m_flags) (m_fault := m_fault) (m_place := m_place) (m_numbered := m_numbered) (m_depth := m_depth) (m_value := m_value) (m_isNot := m_isNot) (m_least0 := m_least0) (m_most0 := m_most0) (m_slot := m_slot) (m_work := m_work) (m_got := m_got) (m_rowMany := m_rowMany) (m_charAt := m_charAt) (m_charWide := m_charWide) (m_trail := m_trail) (m_isMatch := m_isMatch) (m_matchGroups := m_matchGroups) (m_allFrom := m_allFrom) (m_allBefore := m_allBefore) (m_founds := m_founds) (m_pieces := m_pieces) (m_writtenMany := m_writtenMany) (m_templateWide := m_templateWide) (m_tooMuch := m_tooMuch) (WP := WP) (WD := WD) (WT := WT) (WG := (zu WG w m_got)) (WS := (zu WS w ((WS w) + 1))) (to := m_got) (x := (Fi (WP w))) (y := (WD w)) h80 h128 h129 h130 h131 h132 (by omega) (by omega)) (fun oc G2 h => by rcases h with ⟨h, _⟩ <;> exact ⟨_, h⟩) (by omega) m_MO_open ml_MO_464 im_MO_open se_MO_open c_MO h80.2.2 (Nat.le_of_ble_eq_true rfl) d_MO_goRepeat_195 rfl ?_
      intro v G35 hq
      rcases hq with ⟨hv, hfk, hlk, hsk, hN80, hN128, hN129, hN130, hN131, hN132⟩
      cases hv
      have h94 := hfk.get h94 (by decide)
      have h95 := hfk.get h95 (by decide)
      have h96 := hfk.get h96 (by decide)
      have h97 := hfk.get h97 (by decide)
      have h98 := hfk.get h98 (by decide)
      have h99 := hfk.get h99 (by decide)
      have h100 := hfk.get h100 (by decide)
      have h101 := hfk.get h101 (by decide)
      have h90 := hfk.get h90 (by decide)
      have h89 := hfk.get h89 (by decide)
      have h91 := hfk.get h91 (by decide)
      have h92 := hfk.get h92 (by decide)
      have h118 := hfk.get h118 (by decide)
      have h119 := hfk.get h119 (by decide)
      have h120 := hfk.get h120 (by decide)
      have h121 := hfk.get h121 (by decide)
      have h122 := hfk.get h122 (by decide)
      have h123 := hfk.get h123 (by decide)
      have h124 := hfk.get h124 (by decide)
      have h117 := hfk.get h117 (by decide)
      have h125 := hfk.get h125 (by decide)
      have h133 := hfk.get h133 (by decide)
      have hfr := hfr.tr hfk (by decide)
      have hlen := hlk.trans hlen
      have hsl := hsk.trans hsl
      have h80 := hN80
      have h128 := hN128
      have h129 := hN129
      have h130 := hN130
      have h131 := hN131
      have h132 := hN132
      change ab_W _ _ _ G35 198 [some (vR 80), some (vz w), some (vz (WP w)), some (vz (WS w)), some (vz 1), some (vz 1)] [] _
      refine ab_vret rfl d_MO_goRepeat_198 ?_
      rw [hQ]; exact (Or.inr ⟨_, _, m_got, _, _, _, _, _, rfl, hfr, hlen, hsl, h80, h128, h129, h130, h131, h132, (by first | exact (rgs_zu gwp (by omega)) | exact rgs_w (rgs_zu gwp (by omega)) (by omega)), (by first | exact (rgs_zu gwd (by omega)) | exact rgs_w (rgs_zu gwd (by omega)) (by omega)), (by first | exact (rgs_zu gwt (by omega)) | exact rgs_w (rgs_zu gwt (by omega)) (by omega)), (by first | exact (rgs_zu (rgs_zu gwg (by omega)) (by omega)) | exact rgs_w (rgs_zu (rgs_zu gwg (by omega)) (by omega)) (by omega)), (by first | exact (rgs_zu (rgs_zu gws (by omega)) (by omega)) | exact rgs_w (rgs_zu (rgs_zu gws (by omega)) (by omega)) (by omega)), (by exact fun j_ a_ => ⟨by rw [zu_ne (by omega)], by rw [zu_ne (by omega)], by rw [zu_ne (by omega)], by rw [zu_ne (by omega), zu_ne (by omega)], by rw [zu_ne (by omega), zu_ne (by omega)]⟩), (by rw [zu_self]), (by rw [zu_self]), (by rw [zu_self]), (by rw [zu_self]), (by rw [zu_self]), (by rw [zu_ne (show w ≠ m_work by omega)]), (by rw [zu_ne (show w ≠ m_work by omega)]), (by rw [zu_ne (show w ≠ m_work by omega)]), (by rw [zu_ne (show w ≠ m_work by omega), zu_self]), (by rw [zu_ne (show w ≠ m_work by omega), zu_self] <;> omega), (by first | rfl | (rw [zu_self]; done) | omega), (by first | rfl | (rw [zu_self]; done) | omega), (by first | rfl | (rw [zu_self]; done) | omega), (by omega)⟩)
    · refine ab_aload_n d_MO_goRepeat_156 rfl ?_
      refine ab_aload_n d_MO_goRepeat_157 rfl ?_
      refine ab_getf (fs := mof m_thrown m_taped m_length m_out m_wide m_gathered m_sets m_ranges m_nodes m_at m_flags m_fault m_place m_numbered m_depth m_value m_isNot m_least0 m_most0 m_slot m_work m_got m_rowMany m_charAt m_charWide m_trail m_isMatch m_matchGroups m_allFrom m_allBefore m_founds m_pieces m_writtenMany m_templateWide m_tooMuch) f_MO_167 d_MO_goRepeat_158 h80.2.2 rfl ?_
      refine ab_iload_n d_MO_goRepeat_161 rfl ?_
      refine zz_iald d_MO_goRepeat_162 h131 (by omega) ?_
      refine zz_top (zu_self _ _ _) ?_
      refine ab_callV (d' := d - 1) (as := [vz m_got]) (st := []) (r := _) (z_MO_done (o := o) (m_thrown := m_thrown) (m_taped := m_taped) (m_length := m_length) (m_out := m_out) (m_wide := m_wide) (m_gathered := m_gathered) (m_sets := m_sets) (m_ranges := m_ranges) (m_nodes := m_nodes) (m_at := m_at) (m_flags := m_flags) (m_fault := m_fault) (m_place := m_place) (m_numbered := m_numbered) (m_depth := m_depth) (m_value := m_value) (m_isNot := m_isNot) (m_least0 := m_least0) (m_most0 := m_most0) (m_slot := m_slot) (m_work := m_work) (m_got := m_got) (m_rowMany := m_rowMany) (m_charAt := m_charAt) (m_charWide := m_charWide) (m_trail := m_trail) (m_isMatch := m_isMatch) (m_matchGroups := m_matchGroups) (m_allFrom := m_allFrom) (m_allBefore := m_allBefore) (m_founds := m_founds) (m_pieces := m_pieces) (m_writtenMany := m_writtenMany) (m_templateWide := m_templateWide) (m_tooMuch := m_tooMuch) (x := m_got) h80 (by omega)) (fun oc G2 h => by rcases h with ⟨h, _⟩ <;> exact ⟨_, h⟩) (by omega) m_MO_done ml_MO_461 im_MO_done se_MO_done c_MO h80.2.2 (Nat.le_of_ble_eq_true rfl) d_MO_goRepeat_163 rfl ?_
      intro v G36 hq
      rcases hq with ⟨hv, hfk, hlk, hsk, hN80⟩
      cases hv
      have h94 := hfk.get h94 (by decide)
      have h95 := hfk.get h95 (by decide)
      have h96 := hfk.get h96 (by decide)
      have h97 := hfk.get h97 (by decide)
      have h98 := hfk.get h98 (by decide)
      have h99 := hfk.get h99 (by decide)
      have h100 := hfk.get h100 (by decide)
      have h101 := hfk.get h101 (by decide)
      have h90 := hfk.get h90 (by decide)
      have h89 := hfk.get h89 (by decide)
      have h91 := hfk.get h91 (by decide)
      have h92 := hfk.get h92 (by decide)
      have h118 := hfk.get h118 (by decide)
      have h119 := hfk.get h119 (by decide)
      have h120 := hfk.get h120 (by decide)
      have h121 := hfk.get h121 (by decide)
      have h122 := hfk.get h122 (by decide)
      have h123 := hfk.get h123 (by decide)
      have h124 := hfk.get h124 (by decide)
      have h117 := hfk.get h117 (by decide)
      have h125 := hfk.get h125 (by decide)
      have h133 := hfk.get h133 (by decide)
      have h128 := hfk.get h128 (by decide)
      have h129 := hfk.get h129 (by decide)
      have h130 := hfk.get h130 (by decide)
      have h131 := hfk.get h131 (by decide)
      have h132 := hfk.get h132 (by decide)
      have hfr := hfr.tr hfk (by decide)
      have hlen := hlk.trans hlen
      have hsl := hsk.trans hsl
      have h80 := hN80
      change ab_W _ _ _ G36 166 [some (vR 80), some (vz w), some (vz (WP w)), some (vz (WS w)), some (vz 1), some (vz 1)] [] _
      refine ab_vret rfl d_MO_goRepeat_166 ?_
      rw [hQ]; exact (Or.inl ⟨_, _, _, _, _, _, rfl, hfr, hlen, hsl, h80, h128, h129, h130, h131, h132, (by first | exact gwp | exact rgs_w gwp (by omega)), (by first | exact gwd | exact rgs_w gwd (by omega)), (by first | exact gwt | exact rgs_w gwt (by omega)), (by first | exact (rgs_zu gwg (by omega)) | exact rgs_w (rgs_zu gwg (by omega)) (by omega)), (by first | exact gws | exact rgs_w gws (by omega)), (by exact fun j_ a_ => ⟨rfl, rfl, rfl, by rw [zu_ne (by omega)], rfl⟩), (by first | rfl | (rw [zu_self]; done) | omega), (by omega)⟩)
set_option maxRecDepth 100000 in
set_option maxHeartbeats 4000000 in
theorem z_MO_goRepeat_f {X : ab_X} {d : Nat} {o : Nat → Nat} {G : ab_G} {m_thrown : Int} {m_taped : Int} {m_length : Int} {m_out : Int} {m_wide : Int} {m_gathered : Int} {m_sets : Int} {m_ranges : Int} {m_nodes : Int} {m_at : Int} {m_flags : Int} {m_fault : Int} {m_place : Int} {m_numbered : Int} {m_depth : Int} {m_value : Int} {m_isNot : Int} {m_least0 : Int} {m_most0 : Int} {m_slot : Int} {m_work : Int} {m_got : Int} {m_rowMany : Int} {m_charAt : Int} {m_charWide : Int} {m_trail : Int} {m_isMatch : Int} {m_matchGroups : Int} {m_allFrom : Int} {m_allBefore : Int} {m_founds : Int} {m_pieces : Int} {m_writtenMany : Int} {m_templateWide : Int} {m_tooMuch : Int} {T : Int → Int} {N : Int → Int} {W : Int → Int} {CA : Int → Int} {CM : Int → Int} {CL : Int → Int} {CH : Int → Int} {SN : Int → Int} {CC : Int → Int} {RO : Int → Int} {WP : Int → Int} {WD : Int → Int} {WT : Int → Int} {WG : Int → Int} {WS : Int → Int} {K : Int → Int} {O : Int → Int} {Fi : Int → Int} {Be : Int → Int} {Le : Int → Int} {Mo : Int → Int} {Z : Int → Int} {LZ : Int → Int} {SM : Int → Int} {SA : Int → Int} {RL : Int → Int} {RH : Int → Int} {w : Int} {ns : Int} {nd : Int} (h80 : cc o G 80 280 (ab_ob 12 (mof m_thrown m_taped m_length m_out m_wide m_gathered m_sets m_ranges m_nodes m_at m_flags m_fault m_place m_numbered m_depth m_value m_isNot m_least0 m_most0 m_slot m_work m_got m_rowMany m_charAt m_charWide m_trail m_isMatch m_matchGroups m_allFrom m_allBefore m_founds m_pieces m_writtenMany m_templateWide m_tooMuch))) (h94 : cc o G 94 294 (za 4200 K)) (h95 : cc o G 95 295 (za 4200 O)) (h96 : cc o G 96 296 (za 4200 Fi)) (h97 : cc o G 97 297 (za 4200 Be)) (h98 : cc o G 98 298 (za 4200 Le)) (h99 : cc o G 99 299 (za 4200 Mo)) (h100 : cc o G 100 300 (zl 4200 Z)) (h101 : cc o G 101 301 (zb 4200 LZ)) (h90 : cc o G 90 290 (za 2100 SM)) (h89 : cc o G 89 289 (za 2100 SA)) (h91 : cc o G 91 291 (za 24000 RL)) (h92 : cc o G 92 292 (za 24000 RH)) (h118 : cc o G 118 318 (za 75000 T)) (h119 : cc o G 119 319 (za 75000 N)) (h120 : cc o G 120 320 (za 75000 W)) (h121 : cc o G 121 321 (za 75000 CA)) (h122 : cc o G 122 322 (za 75000 CM)) (h123 : cc o G 123 323 (za 3600 CL)) (h124 : cc o G 124 324 (za 3600 CH)) (h117 : cc o G 117 317 (za 6 SN)) (h125 : cc o G 125 325 (za 6 CC)) (h133 : cc o G 133 333 (za 40000 RO)) (h128 : cc o G 128 328 (za 300 WP)) (h129 : cc o G 129 329 (za 300 WD)) (h130 : cc o G 130 330 (za 300 WT)) (h131 : cc o G 131 331 (za 300 WG)) (h132 : cc o G 132 332 (za 300 WS)) (n18 : ab_n0 = 18) (csl : 0 ≤ m_slot ∧ m_slot ≤ 5) (jrl : rgs RL 24000 0 1114111) (jrh : rgs RH 24000 0 1114111) (jk : rgs K 4200 0 7) (jo : rgs O 4200 (-1) 3000) (jfi : rgs Fi 4200 (-1) 4199) (jbe : rgs Be 4200 (-1) 4199) (jle : rgs Le 4200 0 1000) (jmo : rgs Mo 4200 (-1) 1000) (jz : rgs Z 4200 (-1) 1000000000000) (jlz : rgs LZ 4200 0 1) (jsm : rgs SM 2100 0 24000) (jsa : rgs SA 2100 0 24000) (gt : rgs T 75000 0 6) (gn : rgs N 75000 (-1) 12499) (gw : rgs W 75000 (-1) 12499) (gca : rgs CA 75000 0 3600) (gcm : rgs CM 75000 0 24000) (gcl : rgs CL 3600 0 1114111) (gch : rgs CH 3600 0 1114111) (gsn : rgs SN 6 0 12500) (gcc : rgs CC 6 0 600) (gro : rgs RO 40000 0 12499) (gwp : rgs WP 300 0 4199) (gwd : rgs WD 300 0 31) (gwt : rgs WT 300 0 39968) (gwg : rgs WG 300 0 39968) (gws : rgs WS 300 0 4300) (jka : tka T W CA CM SM SA RL RH CL CH (12500 * m_slot) (SN m_slot) m_slot (CC m_slot) ns) (jss : sas SA SM ns) (cst : 0 ≤ m_rowMany ∧ m_rowMany ≤ 1250 ∧ 0 ≤ (SN m_slot) ∧ (SN m_slot) ≤ 12500 ∧ 0 ≤ ns ∧ ns ≤ 2100) (cw : 0 ≤ w ∧ m_work = w + 1 ∧ w < 299) (cx : 0 ≤ WP w ∧ WP w < nd ∧ 0 ≤ nd ∧ nd ≤ 4200 ∧ 0 ≤ WD w ∧ WD w ≤ 31 ∧ 0 ≤ WT w ∧ WT w + 32 ≤ 32 * m_rowMany) (cwg : 0 ≤ WG w ∧ WG w + 32 ≤ 32 * m_rowMany) (ck : K (WP w) = 7) (cfi : 0 ≤ Fi (WP w) ∧ Fi (WP w) < nd) (clm : 0 ≤ Le (WP w) ∧ Le (WP w) ≤ 100 ∧ -1 ≤ Mo (WP w) ∧ Mo (WP w) ≤ 100) (cs0 : WS w = 0) (cmo : 0 ≤ Mo (WP w) ∧ Le (WP w) ≤ Mo (WP w)) (hd : 5 ≤ d) : ab_F X d y_MO_goRepeat (.code y_MO_goRepeat b_MO_goRepeat 6 none) [vR 80, vz w] G (fun oc G2 => (∃ g2 : Int, ∃ WP2 : Int → Int, ∃ WD2 : Int → Int, ∃ WT2 : Int → Int, ∃ WG2 : Int → Int, ∃ WS2 : Int → Int, oc = .returned none ∧ fx o o [280, 328, 329, 330, 331, 332] G G2 ∧ G2.length = G.length ∧ ab_slots G2 = ab_slots G ∧ cc o G2 80 280 (ab_ob 12 (mof m_thrown m_taped m_length m_out m_wide m_gathered m_sets m_ranges m_nodes m_at m_flags m_fault m_place m_numbered m_depth m_value m_isNot m_least0 m_most0 m_slot (m_work - 1) g2 m_rowMany m_charAt m_charWide m_trail m_isMatch m_matchGroups m_allFrom m_allBefore m_founds m_pieces m_writtenMany m_templateWide m_tooMuch)) ∧ cc o G2 128 328 (za 300 WP2) ∧ cc o G2 129 329 (za 300 WD2) ∧ cc o G2 130 330 (za 300 WT2) ∧ cc o G2 131 331 (za 300 WG2) ∧ cc o G2 132 332 (za 300 WS2) ∧ (rgs WP2 300 0 4199) ∧ (rgs WD2 300 0 31) ∧ (rgs WT2 300 0 39968) ∧ (rgs WG2 300 0 39968) ∧ (rgs WS2 300 0 4300) ∧ (fsm WP WD WT WG WS WP2 WD2 WT2 WG2 WS2 w) ∧ (g2 = WG w) ∧ (Mo (WP w) = 0)) ∨ (∃ c2 : Int, ∃ t2 : Int, ∃ u2 : Int, ∃ WP2 : Int → Int, ∃ WD2 : Int → Int, ∃ WT2 : Int → Int, ∃ WG2 : Int → Int, ∃ WS2 : Int → Int, oc = .returned none ∧ fx o o [280, 328, 329, 330, 331, 332] G G2 ∧ G2.length = G.length ∧ ab_slots G2 = ab_slots G ∧ cc o G2 80 280 (ab_ob 12 (mof m_thrown m_taped m_length m_out m_wide m_gathered m_sets m_ranges m_nodes m_at m_flags m_fault m_place m_numbered m_depth m_value m_isNot m_least0 m_most0 m_slot (m_work + 1) m_got m_rowMany m_charAt m_charWide m_trail m_isMatch m_matchGroups m_allFrom m_allBefore m_founds m_pieces m_writtenMany m_templateWide m_tooMuch)) ∧ cc o G2 128 328 (za 300 WP2) ∧ cc o G2 129 329 (za 300 WD2) ∧ cc o G2 130 330 (za 300 WT2) ∧ cc o G2 131 331 (za 300 WG2) ∧ cc o G2 132 332 (za 300 WS2) ∧ (rgs WP2 300 0 4199) ∧ (rgs WD2 300 0 31) ∧ (rgs WT2 300 0 39968) ∧ (rgs WG2 300 0 39968) ∧ (rgs WS2 300 0 4300) ∧ (fsm WP WD WT WG WS WP2 WD2 WT2 WG2 WS2 w) ∧ (WP2 m_work = c2) ∧ (WD2 m_work = WD w) ∧ (WT2 m_work = t2) ∧ (WG2 m_work = t2) ∧ (WS2 m_work = 0) ∧ (WP2 w = WP w) ∧ (WD2 w = WD w) ∧ (WT2 w = WT w) ∧ (WG2 w = u2) ∧ (WS2 w = 1) ∧ (c2 = Fi (WP w)) ∧ (t2 = WG w) ∧ (u2 = WG w) ∧ (0 < Mo (WP w)))) := by
  refine ab_F_of (by decide +kernel) (Nat.le_of_ble_eq_true rfl) ?_
  obtain ⟨Q, hQ⟩ : ∃ z : Outcome → ab_G → Prop, z = (fun oc G2 => (∃ g2 : Int, ∃ WP2 : Int → Int, ∃ WD2 : Int → Int, ∃ WT2 : Int → Int, ∃ WG2 : Int → Int, ∃ WS2 : Int → Int, oc = .returned none ∧ fx o o [280, 328, 329, 330, 331, 332] G G2 ∧ G2.length = G.length ∧ ab_slots G2 = ab_slots G ∧ cc o G2 80 280 (ab_ob 12 (mof m_thrown m_taped m_length m_out m_wide m_gathered m_sets m_ranges m_nodes m_at m_flags m_fault m_place m_numbered m_depth m_value m_isNot m_least0 m_most0 m_slot (m_work - 1) g2 m_rowMany m_charAt m_charWide m_trail m_isMatch m_matchGroups m_allFrom m_allBefore m_founds m_pieces m_writtenMany m_templateWide m_tooMuch)) ∧ cc o G2 128 328 (za 300 WP2) ∧ cc o G2 129 329 (za 300 WD2) ∧ cc o G2 130 330 (za 300 WT2) ∧ cc o G2 131 331 (za 300 WG2) ∧ cc o G2 132 332 (za 300 WS2) ∧ (rgs WP2 300 0 4199) ∧ (rgs WD2 300 0 31) ∧ (rgs WT2 300 0 39968) ∧ (rgs WG2 300 0 39968) ∧ (rgs WS2 300 0 4300) ∧ (fsm WP WD WT WG WS WP2 WD2 WT2 WG2 WS2 w) ∧ (g2 = WG w) ∧ (Mo (WP w) = 0)) ∨ (∃ c2 : Int, ∃ t2 : Int, ∃ u2 : Int, ∃ WP2 : Int → Int, ∃ WD2 : Int → Int, ∃ WT2 : Int → Int, ∃ WG2 : Int → Int, ∃ WS2 : Int → Int, oc = .returned none ∧ fx o o [280, 328, 329, 330, 331, 332] G G2 ∧ G2.length = G.length ∧ ab_slots G2 = ab_slots G ∧ cc o G2 80 280 (ab_ob 12 (mof m_thrown m_taped m_length m_out m_wide m_gathered m_sets m_ranges m_nodes m_at m_flags m_fault m_place m_numbered m_depth m_value m_isNot m_least0 m_most0 m_slot (m_work + 1) m_got m_rowMany m_charAt m_charWide m_trail m_isMatch m_matchGroups m_allFrom m_allBefore m_founds m_pieces m_writtenMany m_templateWide m_tooMuch)) ∧ cc o G2 128 328 (za 300 WP2) ∧ cc o G2 129 329 (za 300 WD2) ∧ cc o G2 130 330 (za 300 WT2) ∧ cc o G2 131 331 (za 300 WG2) ∧ cc o G2 132 332 (za 300 WS2) ∧ (rgs WP2 300 0 4199) ∧ (rgs WD2 300 0 31) ∧ (rgs WT2 300 0 39968) ∧ (rgs WG2 300 0 39968) ∧ (rgs WS2 300 0 4300) ∧ (fsm WP WD WT WG WS WP2 WD2 WT2 WG2 WS2 w) ∧ (WP2 m_work = c2) ∧ (WD2 m_work = WD w) ∧ (WT2 m_work = t2) ∧ (WG2 m_work = t2) ∧ (WS2 m_work = 0) ∧ (WP2 w = WP w) ∧ (WD2 w = WD w) ∧ (WT2 w = WT w) ∧ (WG2 w = u2) ∧ (WS2 w = 1) ∧ (c2 = Fi (WP w)) ∧ (t2 = WG w) ∧ (u2 = WG w) ∧ (0 < Mo (WP w)))) := ⟨_, rfl⟩
  rw [← hQ]
  change ab_W X (ab_pl y_MO_goRepeat b_MO_goRepeat 6 none) d G 0 [some (vR 80), some (vz w), none, none, none, none] [] Q
  have hfr : fx o o [280, 328, 329, 330, 331, 332] G G := fx.rf
  have hlen : G.length = G.length := rfl
  have hsl : ab_slots G = ab_slots G := rfl
  refine ab_aload_n d_MO_goRepeat_0 rfl ?_
  refine ab_getf (fs := mof m_thrown m_taped m_length m_out m_wide m_gathered m_sets m_ranges m_nodes m_at m_flags m_fault m_place m_numbered m_depth m_value m_isNot m_least0 m_most0 m_slot m_work m_got m_rowMany m_charAt m_charWide m_trail m_isMatch m_matchGroups m_allFrom m_allBefore m_founds m_pieces m_writtenMany m_templateWide m_tooMuch) f_MO_158 d_MO_goRepeat_1 h80.2.2 rfl ?_
  refine ab_iload_n d_MO_goRepeat_4 rfl ?_
  refine zz_iald d_MO_goRepeat_5 h128 (by omega) ?_
  have hq1 := gwp w (by omega) (by omega)
  refine ab_istore_n d_MO_goRepeat_6 (Nat.le_of_ble_eq_true rfl) (Nat.le_of_ble_eq_true rfl) rfl ?_
  change ab_W _ _ _ G 7 [some (vR 80), some (vz w), some (vz (WP w)), none, none, none] [] _
  refine ab_aload_n d_MO_goRepeat_7 rfl ?_
  refine ab_getf (fs := mof m_thrown m_taped m_length m_out m_wide m_gathered m_sets m_ranges m_nodes m_at m_flags m_fault m_place m_numbered m_depth m_value m_isNot m_least0 m_most0 m_slot m_work m_got m_rowMany m_charAt m_charWide m_trail m_isMatch m_matchGroups m_allFrom m_allBefore m_founds m_pieces m_writtenMany m_templateWide m_tooMuch) f_MO_170 d_MO_goRepeat_8 h80.2.2 rfl ?_
  refine ab_iload_n d_MO_goRepeat_11 rfl ?_
  refine zz_iald d_MO_goRepeat_12 h132 (by omega) ?_
  have hq2 := gws w (by omega) (by omega)
  refine ab_istore_n d_MO_goRepeat_13 (Nat.le_of_ble_eq_true rfl) (Nat.le_of_ble_eq_true rfl) rfl ?_
  change ab_W _ _ _ G 14 [some (vR 80), some (vz w), some (vz (WP w)), some (vz (WS w)), none, none] [] _
  refine ab_aload_n d_MO_goRepeat_14 rfl ?_
  refine ab_getf (fs := mof m_thrown m_taped m_length m_out m_wide m_gathered m_sets m_ranges m_nodes m_at m_flags m_fault m_place m_numbered m_depth m_value m_isNot m_least0 m_most0 m_slot m_work m_got m_rowMany m_charAt m_charWide m_trail m_isMatch m_matchGroups m_allFrom m_allBefore m_founds m_pieces m_writtenMany m_templateWide m_tooMuch) f_MO_65 d_MO_goRepeat_15 h80.2.2 rfl ?_
  refine ab_iload_n d_MO_goRepeat_18 rfl ?_
  refine zz_iald d_MO_goRepeat_19 h99 (by omega) ?_
  have hq3 := jmo (WP w) (by omega) (by omega)
  refine zz_if_ge (tgt := 27) d_MO_goRepeat_20 (by decide) (by omega) (fun c4 => ?_) (fun c4 => absurd c4 (by omega))
  refine zz_iconst d_MO_goRepeat_27 ?_
  refine ab_istore d_MO_goRepeat_28 (Nat.le_of_ble_eq_true rfl) (Nat.le_of_ble_eq_true rfl) rfl ?_
  change ab_W _ _ _ G 30 [some (vR 80), some (vz w), some (vz (WP w)), some (vz (WS w)), some (vz 0), none] [] _
  refine ab_iload d_MO_goRepeat_30 rfl ?_
  refine zz_if_eq (tgt := 39) d_MO_goRepeat_32 (by decide) (by decide) (fun c5 => ?_) (fun c5 => absurd c5 (by decide))
  refine ab_aload_n d_MO_goRepeat_39 rfl ?_
  refine ab_getf (fs := mof m_thrown m_taped m_length m_out m_wide m_gathered m_sets m_ranges m_nodes m_at m_flags m_fault m_place m_numbered m_depth m_value m_isNot m_least0 m_most0 m_slot m_work m_got m_rowMany m_charAt m_charWide m_trail m_isMatch m_matchGroups m_allFrom m_allBefore m_founds m_pieces m_writtenMany m_templateWide m_tooMuch) f_MO_65 d_MO_goRepeat_40 h80.2.2 rfl ?_
  refine ab_iload_n d_MO_goRepeat_43 rfl ?_
  refine zz_iald d_MO_goRepeat_44 h99 (by omega) ?_
  have hq6 := jmo (WP w) (by omega) (by omega)
  refine ab_aload_n d_MO_goRepeat_45 rfl ?_
  refine ab_getf (fs := mof m_thrown m_taped m_length m_out m_wide m_gathered m_sets m_ranges m_nodes m_at m_flags m_fault m_place m_numbered m_depth m_value m_isNot m_least0 m_most0 m_slot m_work m_got m_rowMany m_charAt m_charWide m_trail m_isMatch m_matchGroups m_allFrom m_allBefore m_founds m_pieces m_writtenMany m_templateWide m_tooMuch) f_MO_62 d_MO_goRepeat_46 h80.2.2 rfl ?_
  refine ab_iload_n d_MO_goRepeat_49 rfl ?_
  refine zz_iald d_MO_goRepeat_50 h98 (by omega) ?_
  have hq7 := jle (WP w) (by omega) (by omega)
  refine zz_isub d_MO_goRepeat_51 ?_
  refine ab_istore d_MO_goRepeat_52 (Nat.le_of_ble_eq_true rfl) (Nat.le_of_ble_eq_true rfl) rfl ?_
  change ab_W _ _ _ G 54 [some (vR 80), some (vz w), some (vz (WP w)), some (vz (WS w)), some (vz 0), some (vz ((Mo (WP w)) - (Le (WP w))))] [] _
  refine ab_iload d_MO_goRepeat_54 rfl ?_
  refine zz_if_eq (tgt := 69) d_MO_goRepeat_56 (by decide) (by decide) (fun c8 => ?_) (fun c8 => absurd c8 (by decide))
  refine ab_iload d_MO_goRepeat_69 rfl ?_
  refine zz_if_eq (tgt := 87) d_MO_goRepeat_71 (by decide) (by decide) (fun c9 => ?_) (fun c9 => absurd c9 (by decide))
  refine ab_iload_n d_MO_goRepeat_87 rfl ?_
  refine zz_if_le (tgt := 127) d_MO_goRepeat_88 (by decide) (by omega) (fun c10 => ?_) (fun c10 => absurd c10 (by omega))
  refine ab_iload_n d_MO_goRepeat_127 rfl ?_
  refine ab_iload d_MO_goRepeat_128 rfl ?_
  refine zz_icmp_le (tgt := 143) d_MO_goRepeat_130 (by decide) (by omega) (by omega) (fun c11 => ?_) (fun c11 => absurd c11 (by omega))
  refine ab_iload_n d_MO_goRepeat_143 rfl ?_
  refine ab_iload d_MO_goRepeat_144 rfl ?_
  refine ab_aload_n d_MO_goRepeat_146 rfl ?_
  refine ab_getf (fs := mof m_thrown m_taped m_length m_out m_wide m_gathered m_sets m_ranges m_nodes m_at m_flags m_fault m_place m_numbered m_depth m_value m_isNot m_least0 m_most0 m_slot m_work m_got m_rowMany m_charAt m_charWide m_trail m_isMatch m_matchGroups m_allFrom m_allBefore m_founds m_pieces m_writtenMany m_templateWide m_tooMuch) f_MO_62 d_MO_goRepeat_147 h80.2.2 rfl ?_
  refine ab_iload_n d_MO_goRepeat_150 rfl ?_
  refine zz_iald d_MO_goRepeat_151 h98 (by omega) ?_
  have hq12 := jle (WP w) (by omega) (by omega)
  refine zz_iadd d_MO_goRepeat_152 ?_
  refine zz_icmp_lt (tgt := 167) d_MO_goRepeat_153 (by decide) (by omega) (by omega) (fun c13 => ?_) (fun c13 => ?_)
  · refine ab_aload_n d_MO_goRepeat_167 rfl ?_
    refine ab_getf (fs := mof m_thrown m_taped m_length m_out m_wide m_gathered m_sets m_ranges m_nodes m_at m_flags m_fault m_place m_numbered m_depth m_value m_isNot m_least0 m_most0 m_slot m_work m_got m_rowMany m_charAt m_charWide m_trail m_isMatch m_matchGroups m_allFrom m_allBefore m_founds m_pieces m_writtenMany m_templateWide m_tooMuch) f_MO_170 d_MO_goRepeat_168 h80.2.2 rfl ?_
    refine ab_iload_n d_MO_goRepeat_171 rfl ?_
    refine ab_iload_n d_MO_goRepeat_172 rfl ?_
    refine zz_iconst d_MO_goRepeat_173 ?_
    refine zz_iadd d_MO_goRepeat_174 ?_
    refine zz_iast d_MO_goRepeat_175 h132 (by omega) (h132.2.1 (by decide)) ?_
    obtain ⟨G14, eG14⟩ : ∃ z : ab_G, z = List.set G 132 (za 300 (zu WS w ((WS w) + 1))) := ⟨_, rfl⟩
    have h80 := h80.keep h132 eG14 (by decide)
    have h94 := h94.keep h132 eG14 (by decide)
    have h95 := h95.keep h132 eG14 (by decide)
    have h96 := h96.keep h132 eG14 (by decide)
    have h97 := h97.keep h132 eG14 (by decide)
    have h98 := h98.keep h132 eG14 (by decide)
    have h99 := h99.keep h132 eG14 (by decide)
    have h100 := h100.keep h132 eG14 (by decide)
    have h101 := h101.keep h132 eG14 (by decide)
    have h90 := h90.keep h132 eG14 (by decide)
    have h89 := h89.keep h132 eG14 (by decide)
    have h91 := h91.keep h132 eG14 (by decide)
    have h92 := h92.keep h132 eG14 (by decide)
    have h118 := h118.keep h132 eG14 (by decide)
    have h119 := h119.keep h132 eG14 (by decide)
    have h120 := h120.keep h132 eG14 (by decide)
    have h121 := h121.keep h132 eG14 (by decide)
    have h122 := h122.keep h132 eG14 (by decide)
    have h123 := h123.keep h132 eG14 (by decide)
    have h124 := h124.keep h132 eG14 (by decide)
    have h117 := h117.keep h132 eG14 (by decide)
    have h125 := h125.keep h132 eG14 (by decide)
    have h133 := h133.keep h132 eG14 (by decide)
    have h128 := h128.keep h132 eG14 (by decide)
    have h129 := h129.keep h132 eG14 (by decide)
    have h130 := h130.keep h132 eG14 (by decide)
    have h131 := h131.keep h132 eG14 (by decide)
    have hlen := (z_len eG14).trans hlen
    have hsl := (z_sl h132 eG14 rfl).trans hsl
    have hfr := hfr.wr h132 eG14 (by decide)
    have h132 := h132.kept eG14
    change ab_W _ _ _ (List.set G 132 (za 300 (zu WS w ((WS w) + 1)))) 176 [some (vR 80), some (vz w), some (vz (WP w)), some (vz (WS w)), some (vz 0), some (vz ((Mo (WP w)) - (Le (WP w))))] [] _
    rw [← eG14]
    refine ab_aload_n d_MO_goRepeat_176 rfl ?_
    refine ab_aload_n d_MO_goRepeat_177 rfl ?_
    refine ab_getf (fs := mof m_thrown m_taped m_length m_out m_wide m_gathered m_sets m_ranges m_nodes m_at m_flags m_fault m_place m_numbered m_depth m_value m_isNot m_least0 m_most0 m_slot m_work m_got m_rowMany m_charAt m_charWide m_trail m_isMatch m_matchGroups m_allFrom m_allBefore m_founds m_pieces m_writtenMany m_templateWide m_tooMuch) f_MO_56 d_MO_goRepeat_178 h80.2.2 rfl ?_
    refine ab_iload_n d_MO_goRepeat_181 rfl ?_
    refine zz_iald d_MO_goRepeat_182 h96 (by omega) ?_
    have hq15 := jfi (WP w) (by omega) (by omega)
    refine ab_aload_n d_MO_goRepeat_183 rfl ?_
    refine ab_getf (fs := mof m_thrown m_taped m_length m_out m_wide m_gathered m_sets m_ranges m_nodes m_at m_flags m_fault m_place m_numbered m_depth m_value m_isNot m_least0 m_most0 m_slot m_work m_got m_rowMany m_charAt m_charWide m_trail m_isMatch m_matchGroups m_allFrom m_allBefore m_founds m_pieces m_writtenMany m_templateWide m_tooMuch) f_MO_161 d_MO_goRepeat_184 h80.2.2 rfl ?_
    refine ab_iload_n d_MO_goRepeat_187 rfl ?_
    refine zz_iald d_MO_goRepeat_188 h129 (by omega) ?_
    have hq16 := gwd w (by omega) (by omega)
    refine ab_aload_n d_MO_goRepeat_189 rfl ?_
    refine ab_getf (fs := mof m_thrown m_taped m_length m_out m_wide m_gathered m_sets m_ranges m_nodes m_at m_flags m_fault m_place m_numbered m_depth m_value m_isNot m_least0 m_most0 m_slot m_work m_got m_rowMany m_charAt m_charWide m_trail m_isMatch m_matchGroups m_allFrom m_allBefore m_founds m_pieces m_writtenMany m_templateWide m_tooMuch) f_MO_167 d_MO_goRepeat_190 h80.2.2 rfl ?_
    refine ab_iload_n d_MO_goRepeat_193 rfl ?_
    refine zz_iald d_MO_goRepeat_194 h131 (by omega) ?_
    have hq17 := gwg w (by omega) (by omega)
    refine ab_callV (d' := d - 1) (as := [vz (Fi (WP w)), vz (WD w), vz (WG w)]) (st := []) (r := _) (z_MO_open (o := o) (m_thrown := m_thrown) (m_taped := m_taped) (m_length := m_length) (m_out := m_out) (m_wide := m_wide) (m_gathered := m_gathered) (m_sets := m_sets) (m_ranges := m_ranges) (m_nodes := m_nodes) (m_at := m_at) (m_flags := m_flags) (m_fault := m_fault) (m_place := m_place) (m_numbered := m_numbered) (m_depth := m_depth) (m_value := m_value) (m_isNot := m_isNot) (m_least0 := m_least0) (m_most0 := m_most0) (m_slot := m_slot) (m_work := m_work) (m_got := m_got) (m_rowMany := m_rowMany) (m_charAt := m_charAt) (m_charWide := m_charWide) (m_trail := m_trail) (m_isMatch := m_isMatch) (m_matchGroups := m_matchGroups) (m_allFrom := m_allFrom) (m_allBefore := m_allBefore) (m_founds := m_founds) (m_pieces := m_pieces) (m_writtenMany := m_writtenMany) (m_templateWide := m_templateWide) (m_tooMuch := m_tooMuch) (WP := WP) (WD := WD) (WT := WT) (WG := WG) (WS := (zu WS w ((WS w) + 1))) (to := (WG w)) (x := (Fi (WP w))) (y := (WD w)) h80 h128 h129 h130 h131 h132 (by omega) (by omega)) (fun oc G2 h => by rcases h with ⟨h, _⟩ <;> exact ⟨_, h⟩) (by omega) m_MO_open ml_MO_464 im_MO_open se_MO_open c_MO h80.2.2 (Nat.le_of_ble_eq_true rfl) d_MO_goRepeat_195 rfl ?_
    intro v G18 hq
    rcases hq with ⟨hv, hfk, hlk, hsk, hN80, hN128, hN129, hN130, hN131, hN132⟩
    cases hv
    have h94 := hfk.get h94 (by decide)
    have h95 := hfk.get h95 (by decide)
    have h96 := hfk.get h96 (by decide)
    have h97 := hfk.get h97 (by decide)
    have h98 := hfk.get h98 (by decide)
    have h99 := hfk.get h99 (by decide)
    have h100 := hfk.get h100 (by decide)
    have h101 := hfk.get h101 (by decide)
    have h90 := hfk.get h90 (by decide)
    have h89 := hfk.get h89 (by decide)
    have h91 := hfk.get h91 (by decide)
    have h92 := hfk.get h92 (by decide)
    have h118 := hfk.get h118 (by decide)
    have h119 := hfk.get h119 (by decide)
    have h120 := hfk.get h120 (by decide)
    have h121 := hfk.get h121 (by decide)
    have h122 := hfk.get h122 (by decide)
    have h123 := hfk.get h123 (by decide)
    have h124 := hfk.get h124 (by decide)
    have h117 := hfk.get h117 (by decide)
    have h125 := hfk.get h125 (by decide)
    have h133 := hfk.get h133 (by decide)
    have hfr := hfr.tr hfk (by decide)
    have hlen := hlk.trans hlen
    have hsl := hsk.trans hsl
    have h80 := hN80
    have h128 := hN128
    have h129 := hN129
    have h130 := hN130
    have h131 := hN131
    have h132 := hN132
    change ab_W _ _ _ G18 198 [some (vR 80), some (vz w), some (vz (WP w)), some (vz (WS w)), some (vz 0), some (vz ((Mo (WP w)) - (Le (WP w))))] [] _
    refine ab_vret rfl d_MO_goRepeat_198 ?_
    rw [hQ]; exact (Or.inr ⟨_, _, (WG w), _, _, _, _, _, rfl, hfr, hlen, hsl, h80, h128, h129, h130, h131, h132, (by first | exact (rgs_zu gwp (by omega)) | exact rgs_w (rgs_zu gwp (by omega)) (by omega)), (by first | exact (rgs_zu gwd (by omega)) | exact rgs_w (rgs_zu gwd (by omega)) (by omega)), (by first | exact (rgs_zu gwt (by omega)) | exact rgs_w (rgs_zu gwt (by omega)) (by omega)), (by first | exact (rgs_zu gwg (by omega)) | exact rgs_w (rgs_zu gwg (by omega)) (by omega)), (by first | exact (rgs_zu (rgs_zu gws (by omega)) (by omega)) | exact rgs_w (rgs_zu (rgs_zu gws (by omega)) (by omega)) (by omega)), (by exact fun j_ a_ => ⟨by rw [zu_ne (by omega)], by rw [zu_ne (by omega)], by rw [zu_ne (by omega)], by rw [zu_ne (by omega)], by rw [zu_ne (by omega), zu_ne (by omega)]⟩), (by rw [zu_self]), (by rw [zu_self]), (by rw [zu_self]), (by rw [zu_self]), (by rw [zu_self]), (by rw [zu_ne (show w ≠ m_work by omega)]), (by rw [zu_ne (show w ≠ m_work by omega)]), (by rw [zu_ne (show w ≠ m_work by omega)]), (by rw [zu_ne (show w ≠ m_work by omega)]), (by rw [zu_ne (show w ≠ m_work by omega), zu_self] <;> omega), (by first | rfl | (rw [zu_self]; done) | omega), (by first | rfl | (rw [zu_self]; done) | omega), (by first | rfl | (rw [zu_self]; done) | omega), (by omega)⟩)
  · refine ab_aload_n d_MO_goRepeat_156 rfl ?_
    refine ab_aload_n d_MO_goRepeat_157 rfl ?_
    refine ab_getf (fs := mof m_thrown m_taped m_length m_out m_wide m_gathered m_sets m_ranges m_nodes m_at m_flags m_fault m_place m_numbered m_depth m_value m_isNot m_least0 m_most0 m_slot m_work m_got m_rowMany m_charAt m_charWide m_trail m_isMatch m_matchGroups m_allFrom m_allBefore m_founds m_pieces m_writtenMany m_templateWide m_tooMuch) f_MO_167 d_MO_goRepeat_158 h80.2.2 rfl ?_
    refine ab_iload_n d_MO_goRepeat_161 rfl ?_
    refine zz_iald d_MO_goRepeat_162 h131 (by omega) ?_
    have hq19 := gwg w (by omega) (by omega)
    refine ab_callV (d' := d - 1) (as := [vz (WG w)]) (st := []) (r := _) (z_MO_done (o := o) (m_thrown := m_thrown) (m_taped := m_taped) (m_length := m_length) (m_out := m_out) (m_wide := m_wide) (m_gathered := m_gathered) (m_sets := m_sets) (m_ranges := m_ranges) (m_nodes := m_nodes) (m_at := m_at) (m_flags := m_flags) (m_fault := m_fault) (m_place := m_place) (m_numbered := m_numbered) (m_depth := m_depth) (m_value := m_value) (m_isNot := m_isNot) (m_least0 := m_least0) (m_most0 := m_most0) (m_slot := m_slot) (m_work := m_work) (m_got := m_got) (m_rowMany := m_rowMany) (m_charAt := m_charAt) (m_charWide := m_charWide) (m_trail := m_trail) (m_isMatch := m_isMatch) (m_matchGroups := m_matchGroups) (m_allFrom := m_allFrom) (m_allBefore := m_allBefore) (m_founds := m_founds) (m_pieces := m_pieces) (m_writtenMany := m_writtenMany) (m_templateWide := m_templateWide) (m_tooMuch := m_tooMuch) (x := (WG w)) h80 (by omega)) (fun oc G2 h => by rcases h with ⟨h, _⟩ <;> exact ⟨_, h⟩) (by omega) m_MO_done ml_MO_461 im_MO_done se_MO_done c_MO h80.2.2 (Nat.le_of_ble_eq_true rfl) d_MO_goRepeat_163 rfl ?_
    intro v G20 hq
    rcases hq with ⟨hv, hfk, hlk, hsk, hN80⟩
    cases hv
    have h94 := hfk.get h94 (by decide)
    have h95 := hfk.get h95 (by decide)
    have h96 := hfk.get h96 (by decide)
    have h97 := hfk.get h97 (by decide)
    have h98 := hfk.get h98 (by decide)
    have h99 := hfk.get h99 (by decide)
    have h100 := hfk.get h100 (by decide)
    have h101 := hfk.get h101 (by decide)
    have h90 := hfk.get h90 (by decide)
    have h89 := hfk.get h89 (by decide)
    have h91 := hfk.get h91 (by decide)
    have h92 := hfk.get h92 (by decide)
    have h118 := hfk.get h118 (by decide)
    have h119 := hfk.get h119 (by decide)
    have h120 := hfk.get h120 (by decide)
    have h121 := hfk.get h121 (by decide)
    have h122 := hfk.get h122 (by decide)
    have h123 := hfk.get h123 (by decide)
    have h124 := hfk.get h124 (by decide)
    have h117 := hfk.get h117 (by decide)
    have h125 := hfk.get h125 (by decide)
    have h133 := hfk.get h133 (by decide)
    have h128 := hfk.get h128 (by decide)
    have h129 := hfk.get h129 (by decide)
    have h130 := hfk.get h130 (by decide)
    have h131 := hfk.get h131 (by decide)
    have h132 := hfk.get h132 (by decide)
    have hfr := hfr.tr hfk (by decide)
    have hlen := hlk.trans hlen
    have hsl := hsk.trans hsl
    have h80 := hN80
    change ab_W _ _ _ G20 166 [some (vR 80), some (vz w), some (vz (WP w)), some (vz (WS w)), some (vz 0), some (vz ((Mo (WP w)) - (Le (WP w))))] [] _
    refine ab_vret rfl d_MO_goRepeat_166 ?_
    rw [hQ]; exact (Or.inl ⟨_, _, _, _, _, _, rfl, hfr, hlen, hsl, h80, h128, h129, h130, h131, h132, (by first | exact gwp | exact rgs_w gwp (by omega)), (by first | exact gwd | exact rgs_w gwd (by omega)), (by first | exact gwt | exact rgs_w gwt (by omega)), (by first | exact gwg | exact rgs_w gwg (by omega)), (by first | exact gws | exact rgs_w gws (by omega)), (by exact fun j_ a_ => ⟨rfl, rfl, rfl, rfl, rfl⟩), (by first | rfl | (rw [zu_self]; done) | omega), (by omega)⟩)
set_option maxRecDepth 100000 in
set_option maxHeartbeats 4000000 in
theorem z_MO_goRepeat_s {X : ab_X} {d : Nat} {o : Nat → Nat} {G : ab_G} {m_thrown : Int} {m_taped : Int} {m_length : Int} {m_out : Int} {m_wide : Int} {m_gathered : Int} {m_sets : Int} {m_ranges : Int} {m_nodes : Int} {m_at : Int} {m_flags : Int} {m_fault : Int} {m_place : Int} {m_numbered : Int} {m_depth : Int} {m_value : Int} {m_isNot : Int} {m_least0 : Int} {m_most0 : Int} {m_slot : Int} {m_work : Int} {m_got : Int} {m_rowMany : Int} {m_charAt : Int} {m_charWide : Int} {m_trail : Int} {m_isMatch : Int} {m_matchGroups : Int} {m_allFrom : Int} {m_allBefore : Int} {m_founds : Int} {m_pieces : Int} {m_writtenMany : Int} {m_templateWide : Int} {m_tooMuch : Int} {T : Int → Int} {N : Int → Int} {W : Int → Int} {CA : Int → Int} {CM : Int → Int} {CL : Int → Int} {CH : Int → Int} {SN : Int → Int} {CC : Int → Int} {RO : Int → Int} {WP : Int → Int} {WD : Int → Int} {WT : Int → Int} {WG : Int → Int} {WS : Int → Int} {K : Int → Int} {O : Int → Int} {Fi : Int → Int} {Be : Int → Int} {Le : Int → Int} {Mo : Int → Int} {Z : Int → Int} {LZ : Int → Int} {SM : Int → Int} {SA : Int → Int} {RL : Int → Int} {RH : Int → Int} {w : Int} {ns : Int} {nd : Int} (h80 : cc o G 80 280 (ab_ob 12 (mof m_thrown m_taped m_length m_out m_wide m_gathered m_sets m_ranges m_nodes m_at m_flags m_fault m_place m_numbered m_depth m_value m_isNot m_least0 m_most0 m_slot m_work m_got m_rowMany m_charAt m_charWide m_trail m_isMatch m_matchGroups m_allFrom m_allBefore m_founds m_pieces m_writtenMany m_templateWide m_tooMuch))) (h94 : cc o G 94 294 (za 4200 K)) (h95 : cc o G 95 295 (za 4200 O)) (h96 : cc o G 96 296 (za 4200 Fi)) (h97 : cc o G 97 297 (za 4200 Be)) (h98 : cc o G 98 298 (za 4200 Le)) (h99 : cc o G 99 299 (za 4200 Mo)) (h100 : cc o G 100 300 (zl 4200 Z)) (h101 : cc o G 101 301 (zb 4200 LZ)) (h90 : cc o G 90 290 (za 2100 SM)) (h89 : cc o G 89 289 (za 2100 SA)) (h91 : cc o G 91 291 (za 24000 RL)) (h92 : cc o G 92 292 (za 24000 RH)) (h118 : cc o G 118 318 (za 75000 T)) (h119 : cc o G 119 319 (za 75000 N)) (h120 : cc o G 120 320 (za 75000 W)) (h121 : cc o G 121 321 (za 75000 CA)) (h122 : cc o G 122 322 (za 75000 CM)) (h123 : cc o G 123 323 (za 3600 CL)) (h124 : cc o G 124 324 (za 3600 CH)) (h117 : cc o G 117 317 (za 6 SN)) (h125 : cc o G 125 325 (za 6 CC)) (h133 : cc o G 133 333 (za 40000 RO)) (h128 : cc o G 128 328 (za 300 WP)) (h129 : cc o G 129 329 (za 300 WD)) (h130 : cc o G 130 330 (za 300 WT)) (h131 : cc o G 131 331 (za 300 WG)) (h132 : cc o G 132 332 (za 300 WS)) (n18 : ab_n0 = 18) (csl : 0 ≤ m_slot ∧ m_slot ≤ 5) (jrl : rgs RL 24000 0 1114111) (jrh : rgs RH 24000 0 1114111) (jk : rgs K 4200 0 7) (jo : rgs O 4200 (-1) 3000) (jfi : rgs Fi 4200 (-1) 4199) (jbe : rgs Be 4200 (-1) 4199) (jle : rgs Le 4200 0 1000) (jmo : rgs Mo 4200 (-1) 1000) (jz : rgs Z 4200 (-1) 1000000000000) (jlz : rgs LZ 4200 0 1) (jsm : rgs SM 2100 0 24000) (jsa : rgs SA 2100 0 24000) (gt : rgs T 75000 0 6) (gn : rgs N 75000 (-1) 12499) (gw : rgs W 75000 (-1) 12499) (gca : rgs CA 75000 0 3600) (gcm : rgs CM 75000 0 24000) (gcl : rgs CL 3600 0 1114111) (gch : rgs CH 3600 0 1114111) (gsn : rgs SN 6 0 12500) (gcc : rgs CC 6 0 600) (gro : rgs RO 40000 0 12499) (gwp : rgs WP 300 0 4199) (gwd : rgs WD 300 0 31) (gwt : rgs WT 300 0 39968) (gwg : rgs WG 300 0 39968) (gws : rgs WS 300 0 4300) (jka : tka T W CA CM SM SA RL RH CL CH (12500 * m_slot) (SN m_slot) m_slot (CC m_slot) ns) (jss : sas SA SM ns) (cst : 0 ≤ m_rowMany ∧ m_rowMany ≤ 1250 ∧ 0 ≤ (SN m_slot) ∧ (SN m_slot) ≤ 12500 ∧ 0 ≤ ns ∧ ns ≤ 2100) (cw : 0 ≤ w ∧ m_work = w + 1 ∧ w < 299) (cx : 0 ≤ WP w ∧ WP w < nd ∧ 0 ≤ nd ∧ nd ≤ 4200 ∧ 0 ≤ WD w ∧ WD w ≤ 31 ∧ 0 ≤ WT w ∧ WT w + 32 ≤ 32 * m_rowMany) (jto : rokk RO (WT w) (WD w + 1) (SN m_slot)) (jgo : rokk RO m_got (WD w + 1) (SN m_slot)) (cgo : 0 ≤ m_got ∧ m_got + 32 ≤ 32 * m_rowMany) (ck : K (WP w) = 7) (cfi : 0 ≤ Fi (WP w) ∧ Fi (WP w) < nd) (clm : 0 ≤ Le (WP w) ∧ Le (WP w) ≤ 100 ∧ -1 ≤ Mo (WP w) ∧ Mo (WP w) ≤ 100) (cs0 : 1 ≤ WS w ∧ WS w ≤ Mo (WP w) - Le (WP w)) (cmo : 0 ≤ Mo (WP w) ∧ Le (WP w) ≤ Mo (WP w)) (crs : m_rowMany ≤ 1249 ∧ (SN m_slot) + WD w + 1 ≤ 12500) (hd : 6 ≤ d) : ab_F X d y_MO_goRepeat (.code y_MO_goRepeat b_MO_goRepeat 6 none) [vR 80, vz w] G (fun oc G2 => (∃ g2 : Int, ∃ WP2 : Int → Int, ∃ WD2 : Int → Int, ∃ WT2 : Int → Int, ∃ WG2 : Int → Int, ∃ WS2 : Int → Int, ∃ RO2 : Int → Int, ∃ T2 : Int → Int, ∃ N2 : Int → Int, ∃ W2 : Int → Int, ∃ SN2 : Int → Int, oc = .returned none ∧ fx o o [280, 328, 329, 330, 331, 332, 333, 318, 319, 320, 317] G G2 ∧ G2.length = G.length ∧ ab_slots G2 = ab_slots G ∧ cc o G2 80 280 (ab_ob 12 (mof m_thrown m_taped m_length m_out m_wide m_gathered m_sets m_ranges m_nodes m_at m_flags m_fault m_place m_numbered m_depth m_value m_isNot m_least0 m_most0 m_slot (m_work - 1) g2 (m_rowMany + 1) m_charAt m_charWide m_trail m_isMatch m_matchGroups m_allFrom m_allBefore m_founds m_pieces m_writtenMany m_templateWide m_tooMuch)) ∧ cc o G2 128 328 (za 300 WP2) ∧ cc o G2 129 329 (za 300 WD2) ∧ cc o G2 130 330 (za 300 WT2) ∧ cc o G2 131 331 (za 300 WG2) ∧ cc o G2 132 332 (za 300 WS2) ∧ cc o G2 133 333 (za 40000 RO2) ∧ cc o G2 118 318 (za 75000 T2) ∧ cc o G2 119 319 (za 75000 N2) ∧ cc o G2 120 320 (za 75000 W2) ∧ cc o G2 117 317 (za 6 SN2) ∧ (rgs WP2 300 0 4199) ∧ (rgs WD2 300 0 31) ∧ (rgs WT2 300 0 39968) ∧ (rgs WG2 300 0 39968) ∧ (rgs WS2 300 0 4300) ∧ (fsm WP WD WT WG WS WP2 WD2 WT2 WG2 WS2 w) ∧ (g2 = (32 * m_rowMany)) ∧ (Mo (WP w) ≤ WS w) ∧ (rgs RO2 40000 0 12499) ∧ (rgs T2 75000 0 6) ∧ (rgs N2 75000 (-1) 12499) ∧ (rgs W2 75000 (-1) 12499) ∧ (rgs SN2 6 0 12500) ∧ ((SN m_slot) ≤ SN2 m_slot ∧ SN2 m_slot ≤ (SN m_slot) + WD w + 1) ∧ (rsm RO RO2 (32 * m_rowMany)) ∧ (sgn T2 N2 W2 (12500 * m_slot) (SN m_slot) (SN2 m_slot)) ∧ (stx T N W CA CM T2 N2 W2 CA CM (12500 * m_slot) (SN m_slot)) ∧ (sno SN SN2 m_slot) ∧ (tka T2 W2 CA CM SM SA RL RH CL CH (12500 * m_slot) (SN2 m_slot) m_slot (CC m_slot) ns) ∧ (rokk RO2 (32 * m_rowMany) (WD w + 1) (SN2 m_slot)) ∧ (rEl T2 N2 W2 RO2 m_slot (SN m_slot) (SN2 m_slot) (32 * m_rowMany) (WD w + 1) (LZ (WP w)) (fun i => RO (m_got + i)) (fun i => RO (WT w + i)))) ∨ (∃ c2 : Int, ∃ t2 : Int, ∃ u2 : Int, ∃ WP2 : Int → Int, ∃ WD2 : Int → Int, ∃ WT2 : Int → Int, ∃ WG2 : Int → Int, ∃ WS2 : Int → Int, ∃ RO2 : Int → Int, ∃ T2 : Int → Int, ∃ N2 : Int → Int, ∃ W2 : Int → Int, ∃ SN2 : Int → Int, oc = .returned none ∧ fx o o [280, 328, 329, 330, 331, 332, 333, 318, 319, 320, 317] G G2 ∧ G2.length = G.length ∧ ab_slots G2 = ab_slots G ∧ cc o G2 80 280 (ab_ob 12 (mof m_thrown m_taped m_length m_out m_wide m_gathered m_sets m_ranges m_nodes m_at m_flags m_fault m_place m_numbered m_depth m_value m_isNot m_least0 m_most0 m_slot (m_work + 1) m_got (m_rowMany + 1) m_charAt m_charWide m_trail m_isMatch m_matchGroups m_allFrom m_allBefore m_founds m_pieces m_writtenMany m_templateWide m_tooMuch)) ∧ cc o G2 128 328 (za 300 WP2) ∧ cc o G2 129 329 (za 300 WD2) ∧ cc o G2 130 330 (za 300 WT2) ∧ cc o G2 131 331 (za 300 WG2) ∧ cc o G2 132 332 (za 300 WS2) ∧ cc o G2 133 333 (za 40000 RO2) ∧ cc o G2 118 318 (za 75000 T2) ∧ cc o G2 119 319 (za 75000 N2) ∧ cc o G2 120 320 (za 75000 W2) ∧ cc o G2 117 317 (za 6 SN2) ∧ (rgs WP2 300 0 4199) ∧ (rgs WD2 300 0 31) ∧ (rgs WT2 300 0 39968) ∧ (rgs WG2 300 0 39968) ∧ (rgs WS2 300 0 4300) ∧ (fsm WP WD WT WG WS WP2 WD2 WT2 WG2 WS2 w) ∧ (WP2 m_work = c2) ∧ (WD2 m_work = WD w) ∧ (WT2 m_work = t2) ∧ (WG2 m_work = t2) ∧ (WS2 m_work = 0) ∧ (WP2 w = WP w) ∧ (WD2 w = WD w) ∧ (WT2 w = WT w) ∧ (WG2 w = u2) ∧ (WS2 w = (WS w + 1)) ∧ (c2 = Fi (WP w)) ∧ (t2 = (32 * m_rowMany)) ∧ (u2 = (32 * m_rowMany)) ∧ (WS w < Mo (WP w)) ∧ (rgs RO2 40000 0 12499) ∧ (rgs T2 75000 0 6) ∧ (rgs N2 75000 (-1) 12499) ∧ (rgs W2 75000 (-1) 12499) ∧ (rgs SN2 6 0 12500) ∧ ((SN m_slot) ≤ SN2 m_slot ∧ SN2 m_slot ≤ (SN m_slot) + WD w + 1) ∧ (rsm RO RO2 (32 * m_rowMany)) ∧ (sgn T2 N2 W2 (12500 * m_slot) (SN m_slot) (SN2 m_slot)) ∧ (stx T N W CA CM T2 N2 W2 CA CM (12500 * m_slot) (SN m_slot)) ∧ (sno SN SN2 m_slot) ∧ (tka T2 W2 CA CM SM SA RL RH CL CH (12500 * m_slot) (SN2 m_slot) m_slot (CC m_slot) ns) ∧ (rokk RO2 (32 * m_rowMany) (WD w + 1) (SN2 m_slot)) ∧ (rEl T2 N2 W2 RO2 m_slot (SN m_slot) (SN2 m_slot) (32 * m_rowMany) (WD w + 1) (LZ (WP w)) (fun i => RO (m_got + i)) (fun i => RO (WT w + i))))) := by
  refine ab_F_of (by decide +kernel) (Nat.le_of_ble_eq_true rfl) ?_
  obtain ⟨Q, hQ⟩ : ∃ z : Outcome → ab_G → Prop, z = (fun oc G2 => (∃ g2 : Int, ∃ WP2 : Int → Int, ∃ WD2 : Int → Int, ∃ WT2 : Int → Int, ∃ WG2 : Int → Int, ∃ WS2 : Int → Int, ∃ RO2 : Int → Int, ∃ T2 : Int → Int, ∃ N2 : Int → Int, ∃ W2 : Int → Int, ∃ SN2 : Int → Int, oc = .returned none ∧ fx o o [280, 328, 329, 330, 331, 332, 333, 318, 319, 320, 317] G G2 ∧ G2.length = G.length ∧ ab_slots G2 = ab_slots G ∧ cc o G2 80 280 (ab_ob 12 (mof m_thrown m_taped m_length m_out m_wide m_gathered m_sets m_ranges m_nodes m_at m_flags m_fault m_place m_numbered m_depth m_value m_isNot m_least0 m_most0 m_slot (m_work - 1) g2 (m_rowMany + 1) m_charAt m_charWide m_trail m_isMatch m_matchGroups m_allFrom m_allBefore m_founds m_pieces m_writtenMany m_templateWide m_tooMuch)) ∧ cc o G2 128 328 (za 300 WP2) ∧ cc o G2 129 329 (za 300 WD2) ∧ cc o G2 130 330 (za 300 WT2) ∧ cc o G2 131 331 (za 300 WG2) ∧ cc o G2 132 332 (za 300 WS2) ∧ cc o G2 133 333 (za 40000 RO2) ∧ cc o G2 118 318 (za 75000 T2) ∧ cc o G2 119 319 (za 75000 N2) ∧ cc o G2 120 320 (za 75000 W2) ∧ cc o G2 117 317 (za 6 SN2) ∧ (rgs WP2 300 0 4199) ∧ (rgs WD2 300 0 31) ∧ (rgs WT2 300 0 39968) ∧ (rgs WG2 300 0 39968) ∧ (rgs WS2 300 0 4300) ∧ (fsm WP WD WT WG WS WP2 WD2 WT2 WG2 WS2 w) ∧ (g2 = (32 * m_rowMany)) ∧ (Mo (WP w) ≤ WS w) ∧ (rgs RO2 40000 0 12499) ∧ (rgs T2 75000 0 6) ∧ (rgs N2 75000 (-1) 12499) ∧ (rgs W2 75000 (-1) 12499) ∧ (rgs SN2 6 0 12500) ∧ ((SN m_slot) ≤ SN2 m_slot ∧ SN2 m_slot ≤ (SN m_slot) + WD w + 1) ∧ (rsm RO RO2 (32 * m_rowMany)) ∧ (sgn T2 N2 W2 (12500 * m_slot) (SN m_slot) (SN2 m_slot)) ∧ (stx T N W CA CM T2 N2 W2 CA CM (12500 * m_slot) (SN m_slot)) ∧ (sno SN SN2 m_slot) ∧ (tka T2 W2 CA CM SM SA RL RH CL CH (12500 * m_slot) (SN2 m_slot) m_slot (CC m_slot) ns) ∧ (rokk RO2 (32 * m_rowMany) (WD w + 1) (SN2 m_slot)) ∧ (rEl T2 N2 W2 RO2 m_slot (SN m_slot) (SN2 m_slot) (32 * m_rowMany) (WD w + 1) (LZ (WP w)) (fun i => RO (m_got + i)) (fun i => RO (WT w + i)))) ∨ (∃ c2 : Int, ∃ t2 : Int, ∃ u2 : Int, ∃ WP2 : Int → Int, ∃ WD2 : Int → Int, ∃ WT2 : Int → Int, ∃ WG2 : Int → Int, ∃ WS2 : Int → Int, ∃ RO2 : Int → Int, ∃ T2 : Int → Int, ∃ N2 : Int → Int, ∃ W2 : Int → Int, ∃ SN2 : Int → Int, oc = .returned none ∧ fx o o [280, 328, 329, 330, 331, 332, 333, 318, 319, 320, 317] G G2 ∧ G2.length = G.length ∧ ab_slots G2 = ab_slots G ∧ cc o G2 80 280 (ab_ob 12 (mof m_thrown m_taped m_length m_out m_wide m_gathered m_sets m_ranges m_nodes m_at m_flags m_fault m_place m_numbered m_depth m_value m_isNot m_least0 m_most0 m_slot (m_work + 1) m_got (m_rowMany + 1) m_charAt m_charWide m_trail m_isMatch m_matchGroups m_allFrom m_allBefore m_founds m_pieces m_writtenMany m_templateWide m_tooMuch)) ∧ cc o G2 128 328 (za 300 WP2) ∧ cc o G2 129 329 (za 300 WD2) ∧ cc o G2 130 330 (za 300 WT2) ∧ cc o G2 131 331 (za 300 WG2) ∧ cc o G2 132 332 (za 300 WS2) ∧ cc o G2 133 333 (za 40000 RO2) ∧ cc o G2 118 318 (za 75000 T2) ∧ cc o G2 119 319 (za 75000 N2) ∧ cc o G2 120 320 (za 75000 W2) ∧ cc o G2 117 317 (za 6 SN2) ∧ (rgs WP2 300 0 4199) ∧ (rgs WD2 300 0 31) ∧ (rgs WT2 300 0 39968) ∧ (rgs WG2 300 0 39968) ∧ (rgs WS2 300 0 4300) ∧ (fsm WP WD WT WG WS WP2 WD2 WT2 WG2 WS2 w) ∧ (WP2 m_work = c2) ∧ (WD2 m_work = WD w) ∧ (WT2 m_work = t2) ∧ (WG2 m_work = t2) ∧ (WS2 m_work = 0) ∧ (WP2 w = WP w) ∧ (WD2 w = WD w) ∧ (WT2 w = WT w) ∧ (WG2 w = u2) ∧ (WS2 w = (WS w + 1)) ∧ (c2 = Fi (WP w)) ∧ (t2 = (32 * m_rowMany)) ∧ (u2 = (32 * m_rowMany)) ∧ (WS w < Mo (WP w)) ∧ (rgs RO2 40000 0 12499) ∧ (rgs T2 75000 0 6) ∧ (rgs N2 75000 (-1) 12499) ∧ (rgs W2 75000 (-1) 12499) ∧ (rgs SN2 6 0 12500) ∧ ((SN m_slot) ≤ SN2 m_slot ∧ SN2 m_slot ≤ (SN m_slot) + WD w + 1) ∧ (rsm RO RO2 (32 * m_rowMany)) ∧ (sgn T2 N2 W2 (12500 * m_slot) (SN m_slot) (SN2 m_slot)) ∧ (stx T N W CA CM T2 N2 W2 CA CM (12500 * m_slot) (SN m_slot)) ∧ (sno SN SN2 m_slot) ∧ (tka T2 W2 CA CM SM SA RL RH CL CH (12500 * m_slot) (SN2 m_slot) m_slot (CC m_slot) ns) ∧ (rokk RO2 (32 * m_rowMany) (WD w + 1) (SN2 m_slot)) ∧ (rEl T2 N2 W2 RO2 m_slot (SN m_slot) (SN2 m_slot) (32 * m_rowMany) (WD w + 1) (LZ (WP w)) (fun i => RO (m_got + i)) (fun i => RO (WT w + i))))) := ⟨_, rfl⟩
  rw [← hQ]
  change ab_W X (ab_pl y_MO_goRepeat b_MO_goRepeat 6 none) d G 0 [some (vR 80), some (vz w), none, none, none, none] [] Q
  have hfr : fx o o [280, 328, 329, 330, 331, 332, 333, 318, 319, 320, 317] G G := fx.rf
  have hlen : G.length = G.length := rfl
  have hsl : ab_slots G = ab_slots G := rfl
  refine ab_aload_n d_MO_goRepeat_0 rfl ?_
  refine ab_getf (fs := mof m_thrown m_taped m_length m_out m_wide m_gathered m_sets m_ranges m_nodes m_at m_flags m_fault m_place m_numbered m_depth m_value m_isNot m_least0 m_most0 m_slot m_work m_got m_rowMany m_charAt m_charWide m_trail m_isMatch m_matchGroups m_allFrom m_allBefore m_founds m_pieces m_writtenMany m_templateWide m_tooMuch) f_MO_158 d_MO_goRepeat_1 h80.2.2 rfl ?_
  refine ab_iload_n d_MO_goRepeat_4 rfl ?_
  refine zz_iald d_MO_goRepeat_5 h128 (by omega) ?_
  have hq1 := gwp w (by omega) (by omega)
  refine ab_istore_n d_MO_goRepeat_6 (Nat.le_of_ble_eq_true rfl) (Nat.le_of_ble_eq_true rfl) rfl ?_
  change ab_W _ _ _ G 7 [some (vR 80), some (vz w), some (vz (WP w)), none, none, none] [] _
  refine ab_aload_n d_MO_goRepeat_7 rfl ?_
  refine ab_getf (fs := mof m_thrown m_taped m_length m_out m_wide m_gathered m_sets m_ranges m_nodes m_at m_flags m_fault m_place m_numbered m_depth m_value m_isNot m_least0 m_most0 m_slot m_work m_got m_rowMany m_charAt m_charWide m_trail m_isMatch m_matchGroups m_allFrom m_allBefore m_founds m_pieces m_writtenMany m_templateWide m_tooMuch) f_MO_170 d_MO_goRepeat_8 h80.2.2 rfl ?_
  refine ab_iload_n d_MO_goRepeat_11 rfl ?_
  refine zz_iald d_MO_goRepeat_12 h132 (by omega) ?_
  have hq2 := gws w (by omega) (by omega)
  refine ab_istore_n d_MO_goRepeat_13 (Nat.le_of_ble_eq_true rfl) (Nat.le_of_ble_eq_true rfl) rfl ?_
  change ab_W _ _ _ G 14 [some (vR 80), some (vz w), some (vz (WP w)), some (vz (WS w)), none, none] [] _
  refine ab_aload_n d_MO_goRepeat_14 rfl ?_
  refine ab_getf (fs := mof m_thrown m_taped m_length m_out m_wide m_gathered m_sets m_ranges m_nodes m_at m_flags m_fault m_place m_numbered m_depth m_value m_isNot m_least0 m_most0 m_slot m_work m_got m_rowMany m_charAt m_charWide m_trail m_isMatch m_matchGroups m_allFrom m_allBefore m_founds m_pieces m_writtenMany m_templateWide m_tooMuch) f_MO_65 d_MO_goRepeat_15 h80.2.2 rfl ?_
  refine ab_iload_n d_MO_goRepeat_18 rfl ?_
  refine zz_iald d_MO_goRepeat_19 h99 (by omega) ?_
  have hq3 := jmo (WP w) (by omega) (by omega)
  refine zz_if_ge (tgt := 27) d_MO_goRepeat_20 (by decide) (by omega) (fun c4 => ?_) (fun c4 => absurd c4 (by omega))
  refine zz_iconst d_MO_goRepeat_27 ?_
  refine ab_istore d_MO_goRepeat_28 (Nat.le_of_ble_eq_true rfl) (Nat.le_of_ble_eq_true rfl) rfl ?_
  change ab_W _ _ _ G 30 [some (vR 80), some (vz w), some (vz (WP w)), some (vz (WS w)), some (vz 0), none] [] _
  refine ab_iload d_MO_goRepeat_30 rfl ?_
  refine zz_if_eq (tgt := 39) d_MO_goRepeat_32 (by decide) (by decide) (fun c5 => ?_) (fun c5 => absurd c5 (by decide))
  refine ab_aload_n d_MO_goRepeat_39 rfl ?_
  refine ab_getf (fs := mof m_thrown m_taped m_length m_out m_wide m_gathered m_sets m_ranges m_nodes m_at m_flags m_fault m_place m_numbered m_depth m_value m_isNot m_least0 m_most0 m_slot m_work m_got m_rowMany m_charAt m_charWide m_trail m_isMatch m_matchGroups m_allFrom m_allBefore m_founds m_pieces m_writtenMany m_templateWide m_tooMuch) f_MO_65 d_MO_goRepeat_40 h80.2.2 rfl ?_
  refine ab_iload_n d_MO_goRepeat_43 rfl ?_
  refine zz_iald d_MO_goRepeat_44 h99 (by omega) ?_
  have hq6 := jmo (WP w) (by omega) (by omega)
  refine ab_aload_n d_MO_goRepeat_45 rfl ?_
  refine ab_getf (fs := mof m_thrown m_taped m_length m_out m_wide m_gathered m_sets m_ranges m_nodes m_at m_flags m_fault m_place m_numbered m_depth m_value m_isNot m_least0 m_most0 m_slot m_work m_got m_rowMany m_charAt m_charWide m_trail m_isMatch m_matchGroups m_allFrom m_allBefore m_founds m_pieces m_writtenMany m_templateWide m_tooMuch) f_MO_62 d_MO_goRepeat_46 h80.2.2 rfl ?_
  refine ab_iload_n d_MO_goRepeat_49 rfl ?_
  refine zz_iald d_MO_goRepeat_50 h98 (by omega) ?_
  have hq7 := jle (WP w) (by omega) (by omega)
  refine zz_isub d_MO_goRepeat_51 ?_
  refine ab_istore d_MO_goRepeat_52 (Nat.le_of_ble_eq_true rfl) (Nat.le_of_ble_eq_true rfl) rfl ?_
  change ab_W _ _ _ G 54 [some (vR 80), some (vz w), some (vz (WP w)), some (vz (WS w)), some (vz 0), some (vz ((Mo (WP w)) - (Le (WP w))))] [] _
  refine ab_iload d_MO_goRepeat_54 rfl ?_
  refine zz_if_eq (tgt := 69) d_MO_goRepeat_56 (by decide) (by decide) (fun c8 => ?_) (fun c8 => absurd c8 (by decide))
  refine ab_iload d_MO_goRepeat_69 rfl ?_
  refine zz_if_eq (tgt := 87) d_MO_goRepeat_71 (by decide) (by decide) (fun c9 => ?_) (fun c9 => absurd c9 (by decide))
  refine ab_iload_n d_MO_goRepeat_87 rfl ?_
  refine zz_if_le (tgt := 127) d_MO_goRepeat_88 (by decide) (by omega) (fun c10 => absurd c10 (by omega)) (fun c10 => ?_)
  refine ab_iload_n d_MO_goRepeat_91 rfl ?_
  refine ab_iload d_MO_goRepeat_92 rfl ?_
  refine zz_icmp_gt (tgt := 127) d_MO_goRepeat_94 (by decide) (by omega) (by omega) (fun c11 => absurd c11 (by omega)) (fun c11 => ?_)
  refine ab_aload_n d_MO_goRepeat_97 rfl ?_
  refine ab_getf (fs := mof m_thrown m_taped m_length m_out m_wide m_gathered m_sets m_ranges m_nodes m_at m_flags m_fault m_place m_numbered m_depth m_value m_isNot m_least0 m_most0 m_slot m_work m_got m_rowMany m_charAt m_charWide m_trail m_isMatch m_matchGroups m_allFrom m_allBefore m_founds m_pieces m_writtenMany m_templateWide m_tooMuch) f_MO_167 d_MO_goRepeat_98 h80.2.2 rfl ?_
  refine ab_iload_n d_MO_goRepeat_101 rfl ?_
  refine ab_aload_n d_MO_goRepeat_102 rfl ?_
  refine ab_iload_n d_MO_goRepeat_103 rfl ?_
  refine ab_aload_n d_MO_goRepeat_104 rfl ?_
  refine ab_getf (fs := mof m_thrown m_taped m_length m_out m_wide m_gathered m_sets m_ranges m_nodes m_at m_flags m_fault m_place m_numbered m_depth m_value m_isNot m_least0 m_most0 m_slot m_work m_got m_rowMany m_charAt m_charWide m_trail m_isMatch m_matchGroups m_allFrom m_allBefore m_founds m_pieces m_writtenMany m_templateWide m_tooMuch) f_MO_448 d_MO_goRepeat_105 h80.2.2 rfl ?_
  refine ab_aload_n d_MO_goRepeat_108 rfl ?_
  refine ab_getf (fs := mof m_thrown m_taped m_length m_out m_wide m_gathered m_sets m_ranges m_nodes m_at m_flags m_fault m_place m_numbered m_depth m_value m_isNot m_least0 m_most0 m_slot m_work m_got m_rowMany m_charAt m_charWide m_trail m_isMatch m_matchGroups m_allFrom m_allBefore m_founds m_pieces m_writtenMany m_templateWide m_tooMuch) f_MO_164 d_MO_goRepeat_109 h80.2.2 rfl ?_
  refine ab_iload_n d_MO_goRepeat_112 rfl ?_
  refine zz_iald d_MO_goRepeat_113 h130 (by omega) ?_
  have hq12 := gwt w (by omega) (by omega)
  refine ab_aload_n d_MO_goRepeat_114 rfl ?_
  refine ab_getf (fs := mof m_thrown m_taped m_length m_out m_wide m_gathered m_sets m_ranges m_nodes m_at m_flags m_fault m_place m_numbered m_depth m_value m_isNot m_least0 m_most0 m_slot m_work m_got m_rowMany m_charAt m_charWide m_trail m_isMatch m_matchGroups m_allFrom m_allBefore m_founds m_pieces m_writtenMany m_templateWide m_tooMuch) f_MO_161 d_MO_goRepeat_115 h80.2.2 rfl ?_
  refine ab_iload_n d_MO_goRepeat_118 rfl ?_
  refine zz_iald d_MO_goRepeat_119 h129 (by omega) ?_
  have hq13 := gwd w (by omega) (by omega)
  refine ab_callV (d' := d - 1) (as := [vz (WP w), vz m_got, vz (WT w), vz (WD w)]) (st := [vz w, vR 131]) (r := _) (z_MO_split2 (o := o) (m_thrown := m_thrown) (m_taped := m_taped) (m_length := m_length) (m_out := m_out) (m_wide := m_wide) (m_gathered := m_gathered) (m_sets := m_sets) (m_ranges := m_ranges) (m_nodes := m_nodes) (m_at := m_at) (m_flags := m_flags) (m_fault := m_fault) (m_place := m_place) (m_numbered := m_numbered) (m_depth := m_depth) (m_value := m_value) (m_isNot := m_isNot) (m_least0 := m_least0) (m_most0 := m_most0) (m_slot := m_slot) (m_work := m_work) (m_got := m_got) (m_rowMany := m_rowMany) (m_charAt := m_charAt) (m_charWide := m_charWide) (m_trail := m_trail) (m_isMatch := m_isMatch) (m_matchGroups := m_matchGroups) (m_allFrom := m_allFrom) (m_allBefore := m_allBefore) (m_founds := m_founds) (m_pieces := m_pieces) (m_writtenMany := m_writtenMany) (m_templateWide := m_templateWide) (m_tooMuch := m_tooMuch) (T := T) (N := N) (W := W) (CA := CA) (CM := CM) (CL := CL) (CH := CH) (SN := SN) (RO := RO) (LZ := LZ) (SM := SM) (SA := SA) (RL := RL) (RH := RH) (k := (WP w)) (dp := (WD w)) (x := m_got) (y := (WT w)) (ns := ns) (cl := (CC m_slot)) h80 h101 h133 h118 h119 h120 h117 (by omega) (by omega) (by omega) (by omega) jlz gro gt gn gw gsn (by omega) jgo jto jka (by omega)) (fun oc G2 h => by rcases h with ⟨_, _, _, _, _, h, _⟩ <;> exact ⟨_, h⟩) (by omega) m_MO_split2 ml_MO_480 im_MO_split2 se_MO_split2 c_MO h80.2.2 (Nat.le_of_ble_eq_true rfl) d_MO_goRepeat_120 rfl ?_
  intro v G14 hq
  rcases hq with ⟨RO215, T216, N217, W218, SN219, hv, hfk, hlk, hsk, hN80, hN133, hN118, hN119, hN120, hN117, hq20, hq21, hq22, hq23, hq24, hq25, hq26, hq27, hq28, hq29, hq30, hq31, hq32⟩
  cases hv
  have h94 := hfk.get h94 (by decide)
  have h95 := hfk.get h95 (by decide)
  have h96 := hfk.get h96 (by decide)
  have h97 := hfk.get h97 (by decide)
  have h98 := hfk.get h98 (by decide)
  have h99 := hfk.get h99 (by decide)
  have h100 := hfk.get h100 (by decide)
  have h101 := hfk.get h101 (by decide)
  have h90 := hfk.get h90 (by decide)
  have h89 := hfk.get h89 (by decide)
  have h91 := hfk.get h91 (by decide)
  have h92 := hfk.get h92 (by decide)
  have h121 := hfk.get h121 (by decide)
  have h122 := hfk.get h122 (by decide)
  have h123 := hfk.get h123 (by decide)
  have h124 := hfk.get h124 (by decide)
  have h125 := hfk.get h125 (by decide)
  have h128 := hfk.get h128 (by decide)
  have h129 := hfk.get h129 (by decide)
  have h130 := hfk.get h130 (by decide)
  have h131 := hfk.get h131 (by decide)
  have h132 := hfk.get h132 (by decide)
  have hfr := hfr.tr hfk (by decide)
  have hlen := hlk.trans hlen
  have hsl := hsk.trans hsl
  have h80 := hN80
  have h133 := hN133
  have h118 := hN118
  have h119 := hN119
  have h120 := hN120
  have h117 := hN117
  change ab_W _ _ _ G14 123 [some (vR 80), some (vz w), some (vz (WP w)), some (vz (WS w)), some (vz 0), some (vz ((Mo (WP w)) - (Le (WP w))))] [vz (32 * m_rowMany), vz w, vR 131] _
  refine zz_iast d_MO_goRepeat_123 h131 (by omega) (h131.2.1 (by decide)) ?_
  obtain ⟨G33, eG33⟩ : ∃ z : ab_G, z = List.set G14 131 (za 300 (zu WG w (32 * m_rowMany))) := ⟨_, rfl⟩
  have h80 := h80.keep h131 eG33 (by decide)
  have h94 := h94.keep h131 eG33 (by decide)
  have h95 := h95.keep h131 eG33 (by decide)
  have h96 := h96.keep h131 eG33 (by decide)
  have h97 := h97.keep h131 eG33 (by decide)
  have h98 := h98.keep h131 eG33 (by decide)
  have h99 := h99.keep h131 eG33 (by decide)
  have h100 := h100.keep h131 eG33 (by decide)
  have h101 := h101.keep h131 eG33 (by decide)
  have h90 := h90.keep h131 eG33 (by decide)
  have h89 := h89.keep h131 eG33 (by decide)
  have h91 := h91.keep h131 eG33 (by decide)
  have h92 := h92.keep h131 eG33 (by decide)
  have h118 := h118.keep h131 eG33 (by decide)
  have h119 := h119.keep h131 eG33 (by decide)
  have h120 := h120.keep h131 eG33 (by decide)
  have h121 := h121.keep h131 eG33 (by decide)
  have h122 := h122.keep h131 eG33 (by decide)
  have h123 := h123.keep h131 eG33 (by decide)
  have h124 := h124.keep h131 eG33 (by decide)
  have h117 := h117.keep h131 eG33 (by decide)
  have h125 := h125.keep h131 eG33 (by decide)
  have h133 := h133.keep h131 eG33 (by decide)
  have h128 := h128.keep h131 eG33 (by decide)
  have h129 := h129.keep h131 eG33 (by decide)
  have h130 := h130.keep h131 eG33 (by decide)
  have h132 := h132.keep h131 eG33 (by decide)
  have hlen := (z_len eG33).trans hlen
  have hsl := (z_sl h131 eG33 rfl).trans hsl
  have hfr := hfr.wr h131 eG33 (by decide)
  have h131 := h131.kept eG33
  change ab_W _ _ _ (List.set G14 131 (za 300 (zu WG w (32 * m_rowMany)))) 124 [some (vR 80), some (vz w), some (vz (WP w)), some (vz (WS w)), some (vz 0), some (vz ((Mo (WP w)) - (Le (WP w))))] [] _
  rw [← eG33]
  refine ab_goto (tgt := 143) d_MO_goRepeat_124 (by decide) ?_
  refine ab_iload_n d_MO_goRepeat_143 rfl ?_
  refine ab_iload d_MO_goRepeat_144 rfl ?_
  refine ab_aload_n d_MO_goRepeat_146 rfl ?_
  refine ab_getf (fs := mof m_thrown m_taped m_length m_out m_wide m_gathered m_sets m_ranges m_nodes m_at m_flags m_fault m_place m_numbered m_depth m_value m_isNot m_least0 m_most0 m_slot m_work m_got (m_rowMany + 1) m_charAt m_charWide m_trail m_isMatch m_matchGroups m_allFrom m_allBefore m_founds m_pieces m_writtenMany m_templateWide m_tooMuch) f_MO_62 d_MO_goRepeat_147 h80.2.2 rfl ?_
  refine ab_iload_n d_MO_goRepeat_150 rfl ?_
  refine zz_iald d_MO_goRepeat_151 h98 (by omega) ?_
  have hq34 := jle (WP w) (by omega) (by omega)
  refine zz_iadd d_MO_goRepeat_152 ?_
  refine zz_icmp_lt (tgt := 167) d_MO_goRepeat_153 (by decide) (by omega) (by omega) (fun c35 => ?_) (fun c35 => ?_)
  · refine ab_aload_n d_MO_goRepeat_167 rfl ?_
    refine ab_getf (fs := mof m_thrown m_taped m_length m_out m_wide m_gathered m_sets m_ranges m_nodes m_at m_flags m_fault m_place m_numbered m_depth m_value m_isNot m_least0 m_most0 m_slot m_work m_got (m_rowMany + 1) m_charAt m_charWide m_trail m_isMatch m_matchGroups m_allFrom m_allBefore m_founds m_pieces m_writtenMany m_templateWide m_tooMuch) f_MO_170 d_MO_goRepeat_168 h80.2.2 rfl ?_
    refine ab_iload_n d_MO_goRepeat_171 rfl ?_
    refine ab_iload_n d_MO_goRepeat_172 rfl ?_
    refine zz_iconst d_MO_goRepeat_173 ?_
    refine zz_iadd d_MO_goRepeat_174 ?_
    refine zz_iast d_MO_goRepeat_175 h132 (by omega) (h132.2.1 (by decide)) ?_
    obtain ⟨G36, eG36⟩ : ∃ z : ab_G, z = List.set G33 132 (za 300 (zu WS w ((WS w) + 1))) := ⟨_, rfl⟩
    have h80 := h80.keep h132 eG36 (by decide)
    have h94 := h94.keep h132 eG36 (by decide)
    have h95 := h95.keep h132 eG36 (by decide)
    have h96 := h96.keep h132 eG36 (by decide)
    have h97 := h97.keep h132 eG36 (by decide)
    have h98 := h98.keep h132 eG36 (by decide)
    have h99 := h99.keep h132 eG36 (by decide)
    have h100 := h100.keep h132 eG36 (by decide)
    have h101 := h101.keep h132 eG36 (by decide)
    have h90 := h90.keep h132 eG36 (by decide)
    have h89 := h89.keep h132 eG36 (by decide)
    have h91 := h91.keep h132 eG36 (by decide)
    have h92 := h92.keep h132 eG36 (by decide)
    have h118 := h118.keep h132 eG36 (by decide)
    have h119 := h119.keep h132 eG36 (by decide)
    have h120 := h120.keep h132 eG36 (by decide)
    have h121 := h121.keep h132 eG36 (by decide)
    have h122 := h122.keep h132 eG36 (by decide)
    have h123 := h123.keep h132 eG36 (by decide)
    have h124 := h124.keep h132 eG36 (by decide)
    have h117 := h117.keep h132 eG36 (by decide)
    have h125 := h125.keep h132 eG36 (by decide)
    have h133 := h133.keep h132 eG36 (by decide)
    have h128 := h128.keep h132 eG36 (by decide)
    have h129 := h129.keep h132 eG36 (by decide)
    have h130 := h130.keep h132 eG36 (by decide)
    have h131 := h131.keep h132 eG36 (by decide)
    have hlen := (z_len eG36).trans hlen
    have hsl := (z_sl h132 eG36 rfl).trans hsl
    have hfr := hfr.wr h132 eG36 (by decide)
    have h132 := h132.kept eG36
    change ab_W _ _ _ (List.set G33 132 (za 300 (zu WS w ((WS w) + 1)))) 176 [some (vR 80), some (vz w), some (vz (WP w)), some (vz (WS w)), some (vz 0), some (vz ((Mo (WP w)) - (Le (WP w))))] [] _
    rw [← eG36]
    refine ab_aload_n d_MO_goRepeat_176 rfl ?_
    refine ab_aload_n d_MO_goRepeat_177 rfl ?_
    refine ab_getf (fs := mof m_thrown m_taped m_length m_out m_wide m_gathered m_sets m_ranges m_nodes m_at m_flags m_fault m_place m_numbered m_depth m_value m_isNot m_least0 m_most0 m_slot m_work m_got (m_rowMany + 1) m_charAt m_charWide m_trail m_isMatch m_matchGroups m_allFrom m_allBefore m_founds m_pieces m_writtenMany m_templateWide m_tooMuch) f_MO_56 d_MO_goRepeat_178 h80.2.2 rfl ?_
    refine ab_iload_n d_MO_goRepeat_181 rfl ?_
    refine zz_iald d_MO_goRepeat_182 h96 (by omega) ?_
    have hq37 := jfi (WP w) (by omega) (by omega)
    refine ab_aload_n d_MO_goRepeat_183 rfl ?_
    refine ab_getf (fs := mof m_thrown m_taped m_length m_out m_wide m_gathered m_sets m_ranges m_nodes m_at m_flags m_fault m_place m_numbered m_depth m_value m_isNot m_least0 m_most0 m_slot m_work m_got (m_rowMany + 1) m_charAt m_charWide m_trail m_isMatch m_matchGroups m_allFrom m_allBefore m_founds m_pieces m_writtenMany m_templateWide m_tooMuch) f_MO_161 d_MO_goRepeat_184 h80.2.2 rfl ?_
    refine ab_iload_n d_MO_goRepeat_187 rfl ?_
    refine zz_iald d_MO_goRepeat_188 h129 (by omega) ?_
    have hq38 := gwd w (by omega) (by omega)
    refine ab_aload_n d_MO_goRepeat_189 rfl ?_
    refine ab_getf (fs := mof m_thrown m_taped m_length m_out m_wide m_gathered m_sets m_ranges m_nodes m_at m_flags m_fault m_place m_numbered m_depth m_value m_isNot m_least0 m_most0 m_slot m_work m_got (m_rowMany + 1) m_charAt m_charWide m_trail m_isMatch m_matchGroups m_allFrom m_allBefore m_founds m_pieces m_writtenMany m_templateWide m_tooMuch) f_MO_167 d_MO_goRepeat_190 h80.2.2 rfl ?_
    refine ab_iload_n d_MO_goRepeat_193 rfl ?_
    refine zz_iald d_MO_goRepeat_194 h131 (by omega) ?_
    refine zz_top (zu_self _ _ _) ?_
    refine ab_callV (d' := d - 1) (as := [vz (Fi (WP w)), vz (WD w), vz (32 * m_rowMany)]) (st := []) (r := _) (z_MO_open (o := o) (m_thrown := m_thrown) (m_taped := m_taped) (m_length := m_length) (m_out := m_out) (m_wide := m_wide) (m_gathered := m_gathered) (m_sets := m_sets) (m_ranges := m_ranges) (m_nodes := m_nodes) (m_at := m_at) (m_flags := m_flags) (m_fault := m_fault) (m_place := m_place) (m_numbered := m_numbered) (m_depth := m_depth) (m_value := m_value) (m_isNot := m_isNot) (m_least0 := m_least0) (m_most0 := m_most0) (m_slot := m_slot) (m_work := m_work) (m_got := m_got) (m_rowMany := (m_rowMany + 1)) (m_charAt := m_charAt) (m_charWide := m_charWide) (m_trail := m_trail) (m_isMatch := m_isMatch) (m_matchGroups := m_matchGroups) (m_allFrom := m_allFrom) (m_allBefore := m_allBefore) (m_founds := m_founds) (m_pieces := m_pieces) (m_writtenMany := m_writtenMany) (m_templateWide := m_templateWide) (m_tooMuch := m_tooMuch) (WP := WP) (WD := WD) (WT := WT) (WG := (zu WG w (32 * m_rowMany))) (WS := (zu WS w ((WS w) + 1))) (to := (32 * m_rowMany)) (x := (Fi (WP w))) (y := (WD w)) h80 h128 h129 h130 h131 h132 (by omega) (by omega)) (fun oc G2 h => by rcases h with ⟨h, _⟩ <;> exact ⟨_, h⟩) (by omega) m_MO_open ml_MO_464 im_MO_open se_MO_open c_MO h80.2.2 (Nat.le_of_ble_eq_true rfl) d_MO_goRepeat_195 rfl ?_
    intro v G39 hq
    rcases hq with ⟨hv, hfk, hlk, hsk, hN80, hN128, hN129, hN130, hN131, hN132⟩
    cases hv
    have h94 := hfk.get h94 (by decide)
    have h95 := hfk.get h95 (by decide)
    have h96 := hfk.get h96 (by decide)
    have h97 := hfk.get h97 (by decide)
    have h98 := hfk.get h98 (by decide)
    have h99 := hfk.get h99 (by decide)
    have h100 := hfk.get h100 (by decide)
    have h101 := hfk.get h101 (by decide)
    have h90 := hfk.get h90 (by decide)
    have h89 := hfk.get h89 (by decide)
    have h91 := hfk.get h91 (by decide)
    have h92 := hfk.get h92 (by decide)
    have h118 := hfk.get h118 (by decide)
    have h119 := hfk.get h119 (by decide)
    have h120 := hfk.get h120 (by decide)
    have h121 := hfk.get h121 (by decide)
    have h122 := hfk.get h122 (by decide)
    have h123 := hfk.get h123 (by decide)
    have h124 := hfk.get h124 (by decide)
    have h117 := hfk.get h117 (by decide)
    have h125 := hfk.get h125 (by decide)
    have h133 := hfk.get h133 (by decide)
    have hfr := hfr.tr hfk (by decide)
    have hlen := hlk.trans hlen
    have hsl := hsk.trans hsl
    have h80 := hN80
    have h128 := hN128
    have h129 := hN129
    have h130 := hN130
    have h131 := hN131
    have h132 := hN132
    change ab_W _ _ _ G39 198 [some (vR 80), some (vz w), some (vz (WP w)), some (vz (WS w)), some (vz 0), some (vz ((Mo (WP w)) - (Le (WP w))))] [] _
    refine ab_vret rfl d_MO_goRepeat_198 ?_
    rw [hQ]; exact (Or.inr ⟨_, _, (32 * m_rowMany), _, _, _, _, _, _, _, _, _, _, rfl, hfr, hlen, hsl, h80, h128, h129, h130, h131, h132, h133, h118, h119, h120, h117, (by first | exact (rgs_zu gwp (by omega)) | exact rgs_w (rgs_zu gwp (by omega)) (by omega)), (by first | exact (rgs_zu gwd (by omega)) | exact rgs_w (rgs_zu gwd (by omega)) (by omega)), (by first | exact (rgs_zu gwt (by omega)) | exact rgs_w (rgs_zu gwt (by omega)) (by omega)), (by first | exact (rgs_zu (rgs_zu gwg (by omega)) (by omega)) | exact rgs_w (rgs_zu (rgs_zu gwg (by omega)) (by omega)) (by omega)), (by first | exact (rgs_zu (rgs_zu gws (by omega)) (by omega)) | exact rgs_w (rgs_zu (rgs_zu gws (by omega)) (by omega)) (by omega)), (by exact fun j_ a_ => ⟨by rw [zu_ne (by omega)], by rw [zu_ne (by omega)], by rw [zu_ne (by omega)], by rw [zu_ne (by omega), zu_ne (by omega)], by rw [zu_ne (by omega), zu_ne (by omega)]⟩), (by rw [zu_self]), (by rw [zu_self]), (by rw [zu_self]), (by rw [zu_self]), (by rw [zu_self]), (by rw [zu_ne (show w ≠ m_work by omega)]), (by rw [zu_ne (show w ≠ m_work by omega)]), (by rw [zu_ne (show w ≠ m_work by omega)]), (by rw [zu_ne (show w ≠ m_work by omega), zu_self]), (by rw [zu_ne (show w ≠ m_work by omega), zu_self] <;> omega), (by first | rfl | (rw [zu_self]; done) | omega), (by first | rfl | (rw [zu_self]; done) | omega), (by first | rfl | (rw [zu_self]; done) | omega), (by omega), (by first | exact hq20 | exact rgs_w hq20 (by omega)), (by first | exact hq21 | exact rgs_w hq21 (by omega)), (by first | exact hq22 | exact rgs_w hq22 (by omega)), (by first | exact hq23 | exact rgs_w hq23 (by omega)), (by first | exact hq24 | exact rgs_w hq24 (by omega)), (by omega), (by exact hq27), (by exact hq28), (by exact hq29), (by exact hq30), (by exact hq31), (by exact hq26), (by exact hq32)⟩)
  · refine ab_aload_n d_MO_goRepeat_156 rfl ?_
    refine ab_aload_n d_MO_goRepeat_157 rfl ?_
    refine ab_getf (fs := mof m_thrown m_taped m_length m_out m_wide m_gathered m_sets m_ranges m_nodes m_at m_flags m_fault m_place m_numbered m_depth m_value m_isNot m_least0 m_most0 m_slot m_work m_got (m_rowMany + 1) m_charAt m_charWide m_trail m_isMatch m_matchGroups m_allFrom m_allBefore m_founds m_pieces m_writtenMany m_templateWide m_tooMuch) f_MO_167 d_MO_goRepeat_158 h80.2.2 rfl ?_
    refine ab_iload_n d_MO_goRepeat_161 rfl ?_
    refine zz_iald d_MO_goRepeat_162 h131 (by omega) ?_
    refine zz_top (zu_self _ _ _) ?_
    refine ab_callV (d' := d - 1) (as := [vz (32 * m_rowMany)]) (st := []) (r := _) (z_MO_done (o := o) (m_thrown := m_thrown) (m_taped := m_taped) (m_length := m_length) (m_out := m_out) (m_wide := m_wide) (m_gathered := m_gathered) (m_sets := m_sets) (m_ranges := m_ranges) (m_nodes := m_nodes) (m_at := m_at) (m_flags := m_flags) (m_fault := m_fault) (m_place := m_place) (m_numbered := m_numbered) (m_depth := m_depth) (m_value := m_value) (m_isNot := m_isNot) (m_least0 := m_least0) (m_most0 := m_most0) (m_slot := m_slot) (m_work := m_work) (m_got := m_got) (m_rowMany := (m_rowMany + 1)) (m_charAt := m_charAt) (m_charWide := m_charWide) (m_trail := m_trail) (m_isMatch := m_isMatch) (m_matchGroups := m_matchGroups) (m_allFrom := m_allFrom) (m_allBefore := m_allBefore) (m_founds := m_founds) (m_pieces := m_pieces) (m_writtenMany := m_writtenMany) (m_templateWide := m_templateWide) (m_tooMuch := m_tooMuch) (x := (32 * m_rowMany)) h80 (by omega)) (fun oc G2 h => by rcases h with ⟨h, _⟩ <;> exact ⟨_, h⟩) (by omega) m_MO_done ml_MO_461 im_MO_done se_MO_done c_MO h80.2.2 (Nat.le_of_ble_eq_true rfl) d_MO_goRepeat_163 rfl ?_
    intro v G40 hq
    rcases hq with ⟨hv, hfk, hlk, hsk, hN80⟩
    cases hv
    have h94 := hfk.get h94 (by decide)
    have h95 := hfk.get h95 (by decide)
    have h96 := hfk.get h96 (by decide)
    have h97 := hfk.get h97 (by decide)
    have h98 := hfk.get h98 (by decide)
    have h99 := hfk.get h99 (by decide)
    have h100 := hfk.get h100 (by decide)
    have h101 := hfk.get h101 (by decide)
    have h90 := hfk.get h90 (by decide)
    have h89 := hfk.get h89 (by decide)
    have h91 := hfk.get h91 (by decide)
    have h92 := hfk.get h92 (by decide)
    have h118 := hfk.get h118 (by decide)
    have h119 := hfk.get h119 (by decide)
    have h120 := hfk.get h120 (by decide)
    have h121 := hfk.get h121 (by decide)
    have h122 := hfk.get h122 (by decide)
    have h123 := hfk.get h123 (by decide)
    have h124 := hfk.get h124 (by decide)
    have h117 := hfk.get h117 (by decide)
    have h125 := hfk.get h125 (by decide)
    have h133 := hfk.get h133 (by decide)
    have h128 := hfk.get h128 (by decide)
    have h129 := hfk.get h129 (by decide)
    have h130 := hfk.get h130 (by decide)
    have h131 := hfk.get h131 (by decide)
    have h132 := hfk.get h132 (by decide)
    have hfr := hfr.tr hfk (by decide)
    have hlen := hlk.trans hlen
    have hsl := hsk.trans hsl
    have h80 := hN80
    change ab_W _ _ _ G40 166 [some (vR 80), some (vz w), some (vz (WP w)), some (vz (WS w)), some (vz 0), some (vz ((Mo (WP w)) - (Le (WP w))))] [] _
    refine ab_vret rfl d_MO_goRepeat_166 ?_
    rw [hQ]; exact (Or.inl ⟨_, _, _, _, _, _, _, _, _, _, _, rfl, hfr, hlen, hsl, h80, h128, h129, h130, h131, h132, h133, h118, h119, h120, h117, (by first | exact gwp | exact rgs_w gwp (by omega)), (by first | exact gwd | exact rgs_w gwd (by omega)), (by first | exact gwt | exact rgs_w gwt (by omega)), (by first | exact (rgs_zu gwg (by omega)) | exact rgs_w (rgs_zu gwg (by omega)) (by omega)), (by first | exact gws | exact rgs_w gws (by omega)), (by exact fun j_ a_ => ⟨rfl, rfl, rfl, by rw [zu_ne (by omega)], rfl⟩), (by first | rfl | (rw [zu_self]; done) | omega), (by omega), (by first | exact hq20 | exact rgs_w hq20 (by omega)), (by first | exact hq21 | exact rgs_w hq21 (by omega)), (by first | exact hq22 | exact rgs_w hq22 (by omega)), (by first | exact hq23 | exact rgs_w hq23 (by omega)), (by first | exact hq24 | exact rgs_w hq24 (by omega)), (by omega), (by exact hq27), (by exact hq28), (by exact hq29), (by exact hq30), (by exact hq31), (by exact hq26), (by exact hq32)⟩)
