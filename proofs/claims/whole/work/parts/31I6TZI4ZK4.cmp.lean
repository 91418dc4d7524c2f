set_option maxRecDepth 100000 in
set_option maxHeartbeats 4000000 in
theorem z_MO_compile {X : ab_X} {d : Nat} {o : Nat → Nat} {G : ab_G} {m_thrown : Int} {m_taped : Int} {m_length : Int} {m_out : Int} {m_wide : Int} {m_gathered : Int} {m_sets : Int} {m_ranges : Int} {m_nodes : Int} {m_at : Int} {m_flags : Int} {m_fault : Int} {m_place : Int} {m_numbered : Int} {m_depth : Int} {m_value : Int} {m_isNot : Int} {m_least0 : Int} {m_most0 : Int} {m_slot : Int} {m_work : Int} {m_got : Int} {m_rowMany : Int} {m_charAt : Int} {m_charWide : Int} {m_trail : Int} {m_isMatch : Int} {m_matchGroups : Int} {m_allFrom : Int} {m_allBefore : Int} {m_founds : Int} {m_pieces : Int} {m_writtenMany : Int} {m_templateWide : Int} {m_tooMuch : Int} {A_tape : Int → Int} {LO : Int → Int} {HI : Int → Int} {MK : Int → Int} {RL : Int → Int} {RH : Int → Int} {NS : Int → Int} {NM : Int → Int} {fr : List Fr} {rp : Int} {ls : Int} {dz : Int} {SV : Int → Int → Prop} {FS : List Fs} {ro : Sn} {vv : Sn} {dv : Sn} {nu9 : Int} {fo9 : Int} {T : Int → Int} {N : Int → Int} {W : Int → Int} {CA : Int → Int} {CM : Int → Int} {CL : Int → Int} {CH : Int → Int} {SN : Int → Int} {CC : Int → Int} {RO : Int → Int} {WP : Int → Int} {WD : Int → Int} {WT : Int → Int} {WG : Int → Int} {WS : Int → Int} {TH : Int → Int} {GR : Int → Int} {SZ : Int → Int} {FL : Int → Int} {EN : Int → Int} {NO_ : Int → Int} {NZ : Int → Int} {sc : Int} {wi : Int} {nd0 : Int} {ns0 : Int} {lv0 : Int} {dn0 : Int} {dh0 : Int} {re0 : Int} {V6 : Int → Sn} (h80 : cc o G 80 280 (ab_ob 12 (mof m_thrown m_taped m_length m_out m_wide m_gathered m_sets m_ranges m_nodes m_at m_flags m_fault m_place m_numbered m_depth m_value m_isNot m_least0 m_most0 m_slot m_work m_got m_rowMany m_charAt m_charWide m_trail m_isMatch m_matchGroups m_allFrom m_allBefore m_founds m_pieces m_writtenMany m_templateWide m_tooMuch))) (h84 : cc o G 84 284 (za 2000 A_tape)) (h87 : cc o G 87 287 (za 9000 LO)) (h88 : cc o G 88 288 (za 9000 HI)) (h93 : cc o G 93 293 (zb 1200 MK)) (h81 : cc o G 81 281 (za 13 tbA)) (h82 : cc o G 82 282 (za 66 tbT)) (h91 : cc o G 91 291 (za 24000 RL)) (h92 : cc o G 92 292 (za 24000 RH)) (h110 : cc o G 110 310 (za 120 NS)) (h111 : cc o G 111 311 (za 10 NM)) (h118 : cc o G 118 318 (za 75000 T)) (h119 : cc o G 119 319 (za 75000 N)) (h120 : cc o G 120 320 (za 75000 W)) (h121 : cc o G 121 321 (za 75000 CA)) (h122 : cc o G 122 322 (za 75000 CM)) (h123 : cc o G 123 323 (za 3600 CL)) (h124 : cc o G 124 324 (za 3600 CH)) (h117 : cc o G 117 317 (za 6 SN)) (h125 : cc o G 125 325 (za 6 CC)) (h133 : cc o G 133 333 (za 40000 RO)) (h128 : cc o G 128 328 (za 300 WP)) (h129 : cc o G 129 329 (za 300 WD)) (h130 : cc o G 130 330 (za 300 WT)) (h131 : cc o G 131 331 (za 300 WG)) (h132 : cc o G 132 332 (za 300 WS)) (h112 : cc o G 112 312 (zb 6 TH)) (h114 : cc o G 114 314 (za 6 GR)) (h115 : cc o G 115 315 (za 6 SZ)) (h116 : cc o G 116 316 (za 6 FL)) (h113 : cc o G 113 313 (za 6 EN)) (h126 : cc o G 126 326 (za 720 NO_)) (h127 : cc o G 127 327 (za 60 NZ)) (ptrI_0 : trI o G 0 nd0 ns0 lv0 dn0 dh0 re0 fr rp ls dz SV FS ro vv dv RL RH m_ranges nu9 fo9) (n18 : ab_n0 = 18) (cta : 0 ≤ m_taped ∧ m_taped ≤ 2000) (jtp : rgs A_tape 2000 0 255) (jmk : rgs MK 1200 0 1) (jrl : rgs RL 24000 0 1114111) (jrh : rgs RH 24000 0 1114111) (jns : rgs NS 120 0 255) (jnm : rgs NM 10 0 12) (gt : rgs T 75000 0 6) (gn : rgs N 75000 (-1) 12499) (gw : rgs W 75000 (-1) 12499) (gca : rgs CA 75000 0 3600) (gcm : rgs CM 75000 0 24000) (gcl : rgs CL 3600 0 1114111) (gch : rgs CH 3600 0 1114111) (gsn : rgs SN 6 0 12500) (gcc : rgs CC 6 0 600) (gro : rgs RO 40000 0 12499) (gwp : rgs WP 300 0 4199) (gwd : rgs WD 300 0 31) (gwt : rgs WT 300 0 39968) (gwg : rgs WG 300 0 39968) (gws : rgs WS 300 0 4300) (xth : rgs TH 6 0 1) (xgr : rgs GR 6 0 9) (xsz : rgs SZ 6 (-2147483648) 2147483647) (xfl : rgs FL 6 0 31) (xen : rgs EN 6 0 12499) (xno_ : rgs NO_ 720 0 255) (xnz : rgs NZ 60 0 12) (jpg : mpg TH T N W CA CM SN EN GR FL) (jpm : mpm TH T N W CA CM CL CH SN EN V6) (jdn : mdn TH NZ NO_ GR) (csw : -2147483648 ≤ sc ∧ sc ≤ 2147483647 ∧ -2147483648 ≤ wi ∧ wi ≤ 2147483647 ∧ -2147483648 ≤ m_value ∧ m_value ≤ 2147483647 ∧ 0 ≤ m_numbered ∧ m_numbered ≤ 9) (hd : 30 ≤ d) : ab_F X d y_MO_compile (.code y_MO_compile b_MO_compile 6 (some (.int))) [vR 80, vz sc, vz wi] G (fun oc G2 => (oc = .returned (some (vz 0)) ∧ fx o o [280, 287, 288, 293, 291, 292, 310, 311, 294, 295, 296, 297, 298, 299, 300, 301, 290, 289, 305, 306, 307, 308, 309, 302, 303, 304, 318, 319, 320, 321, 322, 323, 324, 317, 325, 333, 328, 329, 330, 331, 332, 312, 314, 315, 316, 313, 326, 327] G G2 ∧ G2.length = G.length ∧ ab_slots G2 = ab_slots G ∧ cc o G2 80 280 (ab_ob 12 (mof 1 m_taped m_length m_out m_wide m_gathered m_sets m_ranges m_nodes m_at m_flags m_fault m_place m_numbered m_depth m_value m_isNot m_least0 m_most0 m_slot m_work m_got m_rowMany m_charAt m_charWide m_trail m_isMatch m_matchGroups m_allFrom m_allBefore m_founds m_pieces m_writtenMany m_templateWide m_tooMuch)) ∧ cc o G2 84 284 (za 2000 A_tape) ∧ cc o G2 87 287 (za 9000 LO) ∧ cc o G2 88 288 (za 9000 HI) ∧ cc o G2 93 293 (zb 1200 MK) ∧ cc o G2 81 281 (za 13 tbA) ∧ cc o G2 82 282 (za 66 tbT) ∧ cc o G2 91 291 (za 24000 RL) ∧ cc o G2 92 292 (za 24000 RH) ∧ cc o G2 110 310 (za 120 NS) ∧ cc o G2 111 311 (za 10 NM) ∧ cc o G2 118 318 (za 75000 T) ∧ cc o G2 119 319 (za 75000 N) ∧ cc o G2 120 320 (za 75000 W) ∧ cc o G2 121 321 (za 75000 CA) ∧ cc o G2 122 322 (za 75000 CM) ∧ cc o G2 123 323 (za 3600 CL) ∧ cc o G2 124 324 (za 3600 CH) ∧ cc o G2 117 317 (za 6 SN) ∧ cc o G2 125 325 (za 6 CC) ∧ cc o G2 133 333 (za 40000 RO) ∧ cc o G2 128 328 (za 300 WP) ∧ cc o G2 129 329 (za 300 WD) ∧ cc o G2 130 330 (za 300 WT) ∧ cc o G2 131 331 (za 300 WG) ∧ cc o G2 132 332 (za 300 WS) ∧ cc o G2 112 312 (zb 6 TH) ∧ cc o G2 114 314 (za 6 GR) ∧ cc o G2 115 315 (za 6 SZ) ∧ cc o G2 116 316 (za 6 FL) ∧ cc o G2 113 313 (za 6 EN) ∧ cc o G2 126 326 (za 720 NO_) ∧ cc o G2 127 327 (za 60 NZ) ∧ trI o G2 0 nd0 ns0 lv0 dn0 dh0 re0 fr rp ls dz SV FS ro vv dv RL RH m_ranges nu9 fo9 ∧ (sc < 0 ∨ 5 < sc ∨ wi < 0 ∨ 31 < wi)) ∨ (∃ a2 : Int, ∃ v2 : Int, ∃ nt2 : Int, ∃ w2 : Int, ∃ g2 : Int, ∃ s2 : Int, ∃ r2 : Int, ∃ n2 : Int, ∃ fl2 : Int, ∃ nu2 : Int, ∃ d2 : Int, ∃ le2 : Int, ∃ mo2 : Int, ∃ f2 : Int, ∃ p2 : Int, ∃ nd2 : Int, ∃ ns2 : Int, ∃ lv2 : Int, ∃ dn2 : Int, ∃ dh2 : Int, ∃ re2 : Int, ∃ frx : List Fr, ∃ rpx : Int, ∃ lsx : Int, ∃ dzx : Int, ∃ nux : Int, ∃ fox : Int, ∃ SVx : Int → Int → Prop, ∃ FSx : List Fs, ∃ rox : Sn, ∃ vvx : Sn, ∃ dvx : Sn, ∃ LO2 : Int → Int, ∃ HI2 : Int → Int, ∃ MK2 : Int → Int, ∃ RL2 : Int → Int, ∃ RH2 : Int → Int, ∃ NS2 : Int → Int, ∃ NM2 : Int → Int, oc = .returned (some (vz 0)) ∧ fx o o [280, 287, 288, 293, 291, 292, 310, 311, 294, 295, 296, 297, 298, 299, 300, 301, 290, 289, 305, 306, 307, 308, 309, 302, 303, 304, 318, 319, 320, 321, 322, 323, 324, 317, 325, 333, 328, 329, 330, 331, 332, 312, 314, 315, 316, 313, 326, 327] G G2 ∧ G2.length = G.length ∧ ab_slots G2 = ab_slots G ∧ cc o G2 80 280 (ab_ob 12 (mof 1 0 m_length m_out w2 g2 s2 r2 n2 a2 fl2 f2 p2 nu2 d2 v2 nt2 le2 mo2 m_slot m_work m_got m_rowMany m_charAt m_charWide m_trail m_isMatch m_matchGroups m_allFrom m_allBefore m_founds m_pieces m_writtenMany m_templateWide m_tooMuch)) ∧ cc o G2 87 287 (za 9000 LO2) ∧ cc o G2 88 288 (za 9000 HI2) ∧ cc o G2 93 293 (zb 1200 MK2) ∧ cc o G2 91 291 (za 24000 RL2) ∧ cc o G2 92 292 (za 24000 RH2) ∧ cc o G2 110 310 (za 120 NS2) ∧ cc o G2 111 311 (za 10 NM2) ∧ cc o G2 118 318 (za 75000 T) ∧ cc o G2 119 319 (za 75000 N) ∧ cc o G2 120 320 (za 75000 W) ∧ cc o G2 121 321 (za 75000 CA) ∧ cc o G2 122 322 (za 75000 CM) ∧ cc o G2 123 323 (za 3600 CL) ∧ cc o G2 124 324 (za 3600 CH) ∧ cc o G2 117 317 (za 6 SN) ∧ cc o G2 125 325 (za 6 CC) ∧ cc o G2 133 333 (za 40000 RO) ∧ cc o G2 128 328 (za 300 WP) ∧ cc o G2 129 329 (za 300 WD) ∧ cc o G2 130 330 (za 300 WT) ∧ cc o G2 131 331 (za 300 WG) ∧ cc o G2 132 332 (za 300 WS) ∧ cc o G2 112 312 (zb 6 TH) ∧ cc o G2 114 314 (za 6 GR) ∧ cc o G2 115 315 (za 6 SZ) ∧ cc o G2 116 316 (za 6 FL) ∧ cc o G2 113 313 (za 6 EN) ∧ cc o G2 126 326 (za 720 NO_) ∧ cc o G2 127 327 (za 60 NZ) ∧ trI o G2 0 nd2 ns2 lv2 dn2 dh2 re2 frx rpx lsx dzx SVx FSx rox vvx dvx RL2 RH2 r2 nux fox ∧ (0 ≤ sc ∧ sc ≤ 5 ∧ 0 ≤ wi ∧ wi ≤ 31) ∧ (-2147483648 ≤ v2 ∧ v2 ≤ 2147483647 ∧ 0 ≤ nu2 ∧ nu2 ≤ 9) ∧ (rgs MK2 1200 0 1) ∧ (rgs RL2 24000 0 1114111) ∧ (rgs RH2 24000 0 1114111) ∧ (rgs NS2 120 0 255) ∧ (rgs NM2 10 0 12) ∧ (1 ≤ f2 ∧ f2 ≤ 14) ∧ (rdF A_tape m_taped (wi % 16) f2 p2)) ∨ (∃ a2 : Int, ∃ v2 : Int, ∃ nt2 : Int, ∃ w2 : Int, ∃ g2 : Int, ∃ s2 : Int, ∃ r2 : Int, ∃ n2 : Int, ∃ fl2 : Int, ∃ nu2 : Int, ∃ d2 : Int, ∃ le2 : Int, ∃ mo2 : Int, ∃ f2 : Int, ∃ p2 : Int, ∃ sl2 : Int, ∃ wk2 : Int, ∃ gt2 : Int, ∃ rm2 : Int, ∃ nd2 : Int, ∃ ns2 : Int, ∃ lv2 : Int, ∃ dn2 : Int, ∃ dh2 : Int, ∃ re2 : Int, ∃ frx : List Fr, ∃ rpx : Int, ∃ lsx : Int, ∃ dzx : Int, ∃ nux : Int, ∃ fox : Int, ∃ SVx : Int → Int → Prop, ∃ FSx : List Fs, ∃ rox : Sn, ∃ vvx : Sn, ∃ dvx : Sn, ∃ z9 : Int, ∃ v9 : Sn, ∃ LO2 : Int → Int, ∃ HI2 : Int → Int, ∃ MK2 : Int → Int, ∃ RL2 : Int → Int, ∃ RH2 : Int → Int, ∃ NS2 : Int → Int, ∃ NM2 : Int → Int, ∃ T2 : Int → Int, ∃ N2 : Int → Int, ∃ W2 : Int → Int, ∃ CA2 : Int → Int, ∃ CM2 : Int → Int, ∃ CL2 : Int → Int, ∃ CH2 : Int → Int, ∃ SN2 : Int → Int, ∃ CC2 : Int → Int, ∃ RO2 : Int → Int, ∃ WP2 : Int → Int, ∃ WD2 : Int → Int, ∃ WT2 : Int → Int, ∃ WG2 : Int → Int, ∃ WS2 : Int → Int, ∃ TH2 : Int → Int, ∃ GR2 : Int → Int, ∃ SZ2 : Int → Int, ∃ FL2 : Int → Int, ∃ EN2 : Int → Int, ∃ NO_2 : Int → Int, ∃ NZ2 : Int → Int, oc = .returned (some (vz nu2)) ∧ fx o o [280, 287, 288, 293, 291, 292, 310, 311, 294, 295, 296, 297, 298, 299, 300, 301, 290, 289, 305, 306, 307, 308, 309, 302, 303, 304, 318, 319, 320, 321, 322, 323, 324, 317, 325, 333, 328, 329, 330, 331, 332, 312, 314, 315, 316, 313, 326, 327] G G2 ∧ G2.length = G.length ∧ ab_slots G2 = ab_slots G ∧ cc o G2 80 280 (ab_ob 12 (mof 0 0 m_length m_out w2 g2 s2 r2 n2 a2 fl2 f2 p2 nu2 d2 v2 nt2 le2 mo2 sl2 wk2 gt2 rm2 m_charAt m_charWide m_trail m_isMatch m_matchGroups m_allFrom m_allBefore m_founds m_pieces m_writtenMany m_templateWide m_tooMuch)) ∧ cc o G2 87 287 (za 9000 LO2) ∧ cc o G2 88 288 (za 9000 HI2) ∧ cc o G2 93 293 (zb 1200 MK2) ∧ cc o G2 91 291 (za 24000 RL2) ∧ cc o G2 92 292 (za 24000 RH2) ∧ cc o G2 110 310 (za 120 NS2) ∧ cc o G2 111 311 (za 10 NM2) ∧ cc o G2 118 318 (za 75000 T2) ∧ cc o G2 119 319 (za 75000 N2) ∧ cc o G2 120 320 (za 75000 W2) ∧ cc o G2 121 321 (za 75000 CA2) ∧ cc o G2 122 322 (za 75000 CM2) ∧ cc o G2 123 323 (za 3600 CL2) ∧ cc o G2 124 324 (za 3600 CH2) ∧ cc o G2 117 317 (za 6 SN2) ∧ cc o G2 125 325 (za 6 CC2) ∧ cc o G2 133 333 (za 40000 RO2) ∧ cc o G2 128 328 (za 300 WP2) ∧ cc o G2 129 329 (za 300 WD2) ∧ cc o G2 130 330 (za 300 WT2) ∧ cc o G2 131 331 (za 300 WG2) ∧ cc o G2 132 332 (za 300 WS2) ∧ cc o G2 112 312 (zb 6 TH2) ∧ cc o G2 114 314 (za 6 GR2) ∧ cc o G2 115 315 (za 6 SZ2) ∧ cc o G2 116 316 (za 6 FL2) ∧ cc o G2 113 313 (za 6 EN2) ∧ cc o G2 126 326 (za 720 NO_2) ∧ cc o G2 127 327 (za 60 NZ2) ∧ trI o G2 0 nd2 ns2 lv2 dn2 dh2 re2 frx rpx lsx dzx SVx FSx rox vvx dvx RL2 RH2 r2 nux fox ∧ (0 ≤ sc ∧ sc ≤ 5 ∧ 0 ≤ wi ∧ wi ≤ 31) ∧ (-2147483648 ≤ v2 ∧ v2 ≤ 2147483647 ∧ 0 ≤ nu2 ∧ nu2 ≤ 9) ∧ (rgs MK2 1200 0 1) ∧ (rgs RL2 24000 0 1114111) ∧ (rgs RH2 24000 0 1114111) ∧ (rgs NS2 120 0 255) ∧ (rgs NM2 10 0 12) ∧ (rgs T2 75000 0 6) ∧ (rgs N2 75000 (-1) 12499) ∧ (rgs W2 75000 (-1) 12499) ∧ (rgs CA2 75000 0 3600) ∧ (rgs CM2 75000 0 24000) ∧ (rgs CL2 3600 0 1114111) ∧ (rgs CH2 3600 0 1114111) ∧ (rgs SN2 6 0 12500) ∧ (rgs CC2 6 0 600) ∧ (rgs RO2 40000 0 12499) ∧ (rgs WP2 300 0 4199) ∧ (rgs WD2 300 0 31) ∧ (rgs WT2 300 0 39968) ∧ (rgs WG2 300 0 39968) ∧ (rgs WS2 300 0 4300) ∧ (rgs TH2 6 0 1) ∧ (rgs GR2 6 0 9) ∧ (rgs SZ2 6 (-2147483648) 2147483647) ∧ (rgs FL2 6 0 31) ∧ (rgs EN2 6 0 12499) ∧ (rgs NO_2 720 0 255) ∧ (rgs NZ2 60 0 12) ∧ (mpg TH2 T2 N2 W2 CA2 CM2 SN2 EN2 GR2 FL2) ∧ (rdN A_tape m_taped (wi % 16) nu2 z9 NS2 NM2) ∧ (rdM A_tape m_taped (wi % 16) v9) ∧ (mpm TH2 T2 N2 W2 CA2 CM2 CL2 CH2 SN2 EN2 (vUp V6 sc v9)) ∧ (f2 = 0 ∧ p2 = -1) ∧ (TH2 = zu TH sc 1) ∧ (GR2 = zu GR sc nu2) ∧ (SZ2 = zu SZ sc z9) ∧ (FL2 = zu FL sc wi) ∧ (cpS NO_ NO_2 NS2 (120 * sc) (120 * sc + 120) (120 * sc)) ∧ (nzI NZ NZ2 NM2 nu2 sc 10) ∧ (mdn TH2 NZ2 NO_2 GR2))) := by
  refine ab_F_of (by decide +kernel) (Nat.le_of_ble_eq_true rfl) ?_
  obtain ⟨Q, hQ⟩ : ∃ z : Outcome → ab_G → Prop, z = (fun oc G2 => (oc = .returned (some (vz 0)) ∧ fx o o [280, 287, 288, 293, 291, 292, 310, 311, 294, 295, 296, 297, 298, 299, 300, 301, 290, 289, 305, 306, 307, 308, 309, 302, 303, 304, 318, 319, 320, 321, 322, 323, 324, 317, 325, 333, 328, 329, 330, 331, 332, 312, 314, 315, 316, 313, 326, 327] G G2 ∧ G2.length = G.length ∧ ab_slots G2 = ab_slots G ∧ cc o G2 80 280 (ab_ob 12 (mof 1 m_taped m_length m_out m_wide m_gathered m_sets m_ranges m_nodes m_at m_flags m_fault m_place m_numbered m_depth m_value m_isNot m_least0 m_most0 m_slot m_work m_got m_rowMany m_charAt m_charWide m_trail m_isMatch m_matchGroups m_allFrom m_allBefore m_founds m_pieces m_writtenMany m_templateWide m_tooMuch)) ∧ cc o G2 84 284 (za 2000 A_tape) ∧ cc o G2 87 287 (za 9000 LO) ∧ cc o G2 88 288 (za 9000 HI) ∧ cc o G2 93 293 (zb 1200 MK) ∧ cc o G2 81 281 (za 13 tbA) ∧ cc o G2 82 282 (za 66 tbT) ∧ cc o G2 91 291 (za 24000 RL) ∧ cc o G2 92 292 (za 24000 RH) ∧ cc o G2 110 310 (za 120 NS) ∧ cc o G2 111 311 (za 10 NM) ∧ cc o G2 118 318 (za 75000 T) ∧ cc o G2 119 319 (za 75000 N) ∧ cc o G2 120 320 (za 75000 W) ∧ cc o G2 121 321 (za 75000 CA) ∧ cc o G2 122 322 (za 75000 CM) ∧ cc o G2 123 323 (za 3600 CL) ∧ cc o G2 124 324 (za 3600 CH) ∧ cc o G2 117 317 (za 6 SN) ∧ cc o G2 125 325 (za 6 CC) ∧ cc o G2 133 333 (za 40000 RO) ∧ cc o G2 128 328 (za 300 WP) ∧ cc o G2 129 329 (za 300 WD) ∧ cc o G2 130 330 (za 300 WT) ∧ cc o G2 131 331 (za 300 WG) ∧ cc o G2 132 332 (za 300 WS) ∧ cc o G2 112 312 (zb 6 TH) ∧ cc o G2 114 314 (za 6 GR) ∧ cc o G2 115 315 (za 6 SZ) ∧ cc o G2 116 316 (za 6 FL) ∧ cc o G2 113 313 (za 6 EN) ∧ cc o G2 126 326 (za 720 NO_) ∧ cc o G2 127 327 (za 60 NZ) ∧ trI o G2 0 nd0 ns0 lv0 dn0 dh0 re0 fr rp ls dz SV FS ro vv dv RL RH m_ranges nu9 fo9 ∧ (sc < 0 ∨ 5 < sc ∨ wi < 0 ∨ 31 < wi)) ∨ (∃ a2 : Int, ∃ v2 : Int, ∃ nt2 : Int, ∃ w2 : Int, ∃ g2 : Int, ∃ s2 : Int, ∃ r2 : Int, ∃ n2 : Int, ∃ fl2 : Int, ∃ nu2 : Int, ∃ d2 : Int, ∃ le2 : Int, ∃ mo2 : Int, ∃ f2 : Int, ∃ p2 : Int, ∃ nd2 : Int, ∃ ns2 : Int, ∃ lv2 : Int, ∃ dn2 : Int, ∃ dh2 : Int, ∃ re2 : Int, ∃ frx : List Fr, ∃ rpx : Int, ∃ lsx : Int, ∃ dzx : Int, ∃ nux : Int, ∃ fox : Int, ∃ SVx : Int → Int → Prop, ∃ FSx : List Fs, ∃ rox : Sn, ∃ vvx : Sn, ∃ dvx : Sn, ∃ LO2 : Int → Int, ∃ HI2 : Int → Int, ∃ MK2 : Int → Int, ∃ RL2 : Int → Int, ∃ RH2 : Int → Int, ∃ NS2 : Int → Int, ∃ NM2 : Int → Int, oc = .returned (some (vz 0)) ∧ fx o o [280, 287, 288, 293, 291, 292, 310, 311, 294, 295, 296, 297, 298, 299, 300, 301, 290, 289, 305, 306, 307, 308, 309, 302, 303, 304, 318, 319, 320, 321, 322, 323, 324, 317, 325, 333, 328, 329, 330, 331, 332, 312, 314, 315, 316, 313, 326, 327] G G2 ∧ G2.length = G.length ∧ ab_slots G2 = ab_slots G ∧ cc o G2 80 280 (ab_ob 12 (mof 1 0 m_length m_out w2 g2 s2 r2 n2 a2 fl2 f2 p2 nu2 d2 v2 nt2 le2 mo2 m_slot m_work m_got m_rowMany m_charAt m_charWide m_trail m_isMatch m_matchGroups m_allFrom m_allBefore m_founds m_pieces m_writtenMany m_templateWide m_tooMuch)) ∧ cc o G2 87 287 (za 9000 LO2) ∧ cc o G2 88 288 (za 9000 HI2) ∧ cc o G2 93 293 (zb 1200 MK2) ∧ cc o G2 91 291 (za 24000 RL2) ∧ cc o G2 92 292 (za 24000 RH2) ∧ cc o G2 110 310 (za 120 NS2) ∧ cc o G2 111 311 (za 10 NM2) ∧ cc o G2 118 318 (za 75000 T) ∧ cc o G2 119 319 (za 75000 N) ∧ cc o G2 120 320 (za 75000 W) ∧ cc o G2 121 321 (za 75000 CA) ∧ cc o G2 122 322 (za 75000 CM) ∧ cc o G2 123 323 (za 3600 CL) ∧ cc o G2 124 324 (za 3600 CH) ∧ cc o G2 117 317 (za 6 SN) ∧ cc o G2 125 325 (za 6 CC) ∧ cc o G2 133 333 (za 40000 RO) ∧ cc o G2 128 328 (za 300 WP) ∧ cc o G2 129 329 (za 300 WD) ∧ cc o G2 130 330 (za 300 WT) ∧ cc o G2 131 331 (za 300 WG) ∧ cc o G2 132 332 (za 300 WS) ∧ cc o G2 112 312 (zb 6 TH) ∧ cc o G2 114 314 (za 6 GR) ∧ cc o G2 115 315 (za 6 SZ) ∧ cc o G2 116 316 (za 6 FL) ∧ cc o G2 113 313 (za 6 EN) ∧ cc o G2 126 326 (za 720 NO_) ∧ cc o G2 127 327 (za 60 NZ) ∧ trI o G2 0 nd2 ns2 lv2 dn2 dh2 re2 frx rpx lsx dzx SVx FSx rox vvx dvx RL2 RH2 r2 nux fox ∧ (0 ≤ sc ∧ sc ≤ 5 ∧ 0 ≤ wi ∧ wi ≤ 31) ∧ (-2147483648 ≤ v2 ∧ v2 ≤ 2147483647 ∧ 0 ≤ nu2 ∧ nu2 ≤ 9) ∧ (rgs MK2 1200 0 1) ∧ (rgs RL2 24000 0 1114111) ∧ (rgs RH2 24000 0 1114111) ∧ (rgs NS2 120 0 255) ∧ (rgs NM2 10 0 12) ∧ (1 ≤ f2 ∧ f2 ≤ 14) ∧ (rdF A_tape m_taped (wi % 16) f2 p2)) ∨ (∃ a2 : Int, ∃ v2 : Int, ∃ nt2 : Int, ∃ w2 : Int, ∃ g2 : Int, ∃ s2 : Int, ∃ r2 : Int, ∃ n2 : Int, ∃ fl2 : Int, ∃ nu2 : Int, ∃ d2 : Int, ∃ le2 : Int, ∃ mo2 : Int, ∃ f2 : Int, ∃ p2 : Int, ∃ sl2 : Int, ∃ wk2 : Int, ∃ gt2 : Int, ∃ rm2 : Int, ∃ nd2 : Int, ∃ ns2 : Int, ∃ lv2 : Int, ∃ dn2 : Int, ∃ dh2 : Int, ∃ re2 : Int, ∃ frx : List Fr, ∃ rpx : Int, ∃ lsx : Int, ∃ dzx : Int, ∃ nux : Int, ∃ fox : Int, ∃ SVx : Int → Int → Prop, ∃ FSx : List Fs, ∃ rox : Sn, ∃ vvx : Sn, ∃ dvx : Sn, ∃ z9 : Int, ∃ v9 : Sn, ∃ LO2 : Int → Int, ∃ HI2 : Int → Int, ∃ MK2 : Int → Int, ∃ RL2 : Int → Int, ∃ RH2 : Int → Int, ∃ NS2 : Int → Int, ∃ NM2 : Int → Int, ∃ T2 : Int → Int, ∃ N2 : Int → Int, ∃ W2 : Int → Int, ∃ CA2 : Int → Int, ∃ CM2 : Int → Int, ∃ CL2 : Int → Int, ∃ CH2 : Int → Int, ∃ SN2 : Int → Int, ∃ CC2 : Int → Int, ∃ RO2 : Int → Int, ∃ WP2 : Int → Int, ∃ WD2 : Int → Int, ∃ WT2 : Int → Int, ∃ WG2 : Int → Int, ∃ WS2 : Int → Int, ∃ TH2 : Int → Int, ∃ GR2 : Int → Int, ∃ SZ2 : Int → Int, ∃ FL2 : Int → Int, ∃ EN2 : Int → Int, ∃ NO_2 : Int → Int, ∃ NZ2 : Int → Int, oc = .returned (some (vz nu2)) ∧ fx o o [280, 287, 288, 293, 291, 292, 310, 311, 294, 295, 296, 297, 298, 299, 300, 301, 290, 289, 305, 306, 307, 308, 309, 302, 303, 304, 318, 319, 320, 321, 322, 323, 324, 317, 325, 333, 328, 329, 330, 331, 332, 312, 314, 315, 316, 313, 326, 327] G G2 ∧ G2.length = G.length ∧ ab_slots G2 = ab_slots G ∧ cc o G2 80 280 (ab_ob 12 (mof 0 0 m_length m_out w2 g2 s2 r2 n2 a2 fl2 f2 p2 nu2 d2 v2 nt2 le2 mo2 sl2 wk2 gt2 rm2 m_charAt m_charWide m_trail m_isMatch m_matchGroups m_allFrom m_allBefore m_founds m_pieces m_writtenMany m_templateWide m_tooMuch)) ∧ cc o G2 87 287 (za 9000 LO2) ∧ cc o G2 88 288 (za 9000 HI2) ∧ cc o G2 93 293 (zb 1200 MK2) ∧ cc o G2 91 291 (za 24000 RL2) ∧ cc o G2 92 292 (za 24000 RH2) ∧ cc o G2 110 310 (za 120 NS2) ∧ cc o G2 111 311 (za 10 NM2) ∧ cc o G2 118 318 (za 75000 T2) ∧ cc o G2 119 319 (za 75000 N2) ∧ cc o G2 120 320 (za 75000 W2) ∧ cc o G2 121 321 (za 75000 CA2) ∧ cc o G2 122 322 (za 75000 CM2) ∧ cc o G2 123 323 (za 3600 CL2) ∧ cc o G2 124 324 (za 3600 CH2) ∧ cc o G2 117 317 (za 6 SN2) ∧ cc o G2 125 325 (za 6 CC2) ∧ cc o G2 133 333 (za 40000 RO2) ∧ cc o G2 128 328 (za 300 WP2) ∧ cc o G2 129 329 (za 300 WD2) ∧ cc o G2 130 330 (za 300 WT2) ∧ cc o G2 131 331 (za 300 WG2) ∧ cc o G2 132 332 (za 300 WS2) ∧ cc o G2 112 312 (zb 6 TH2) ∧ cc o G2 114 314 (za 6 GR2) ∧ cc o G2 115 315 (za 6 SZ2) ∧ cc o G2 116 316 (za 6 FL2) ∧ cc o G2 113 313 (za 6 EN2) ∧ cc o G2 126 326 (za 720 NO_2) ∧ cc o G2 127 327 (za 60 NZ2) ∧ trI o G2 0 nd2 ns2 lv2 dn2 dh2 re2 frx rpx lsx dzx SVx FSx rox vvx dvx RL2 RH2 r2 nux fox ∧ (0 ≤ sc ∧ sc ≤ 5 ∧ 0 ≤ wi ∧ wi ≤ 31) ∧ (-2147483648 ≤ v2 ∧ v2 ≤ 2147483647 ∧ 0 ≤ nu2 ∧ nu2 ≤ 9) ∧ (rgs MK2 1200 0 1) ∧ (rgs RL2 24000 0 1114111) ∧ (rgs RH2 24000 0 1114111) ∧ (rgs NS2 120 0 255) ∧ (rgs NM2 10 0 12) ∧ (rgs T2 75000 0 6) ∧ (rgs N2 75000 (-1) 12499) ∧ (rgs W2 75000 (-1) 12499) ∧ (rgs CA2 75000 0 3600) ∧ (rgs CM2 75000 0 24000) ∧ (rgs CL2 3600 0 1114111) ∧ (rgs CH2 3600 0 1114111) ∧ (rgs SN2 6 0 12500) ∧ (rgs CC2 6 0 600) ∧ (rgs RO2 40000 0 12499) ∧ (rgs WP2 300 0 4199) ∧ (rgs WD2 300 0 31) ∧ (rgs WT2 300 0 39968) ∧ (rgs WG2 300 0 39968) ∧ (rgs WS2 300 0 4300) ∧ (rgs TH2 6 0 1) ∧ (rgs GR2 6 0 9) ∧ (rgs SZ2 6 (-2147483648) 2147483647) ∧ (rgs FL2 6 0 31) ∧ (rgs EN2 6 0 12499) ∧ (rgs NO_2 720 0 255) ∧ (rgs NZ2 60 0 12) ∧ (mpg TH2 T2 N2 W2 CA2 CM2 SN2 EN2 GR2 FL2) ∧ (rdN A_tape m_taped (wi % 16) nu2 z9 NS2 NM2) ∧ (rdM A_tape m_taped (wi % 16) v9) ∧ (mpm TH2 T2 N2 W2 CA2 CM2 CL2 CH2 SN2 EN2 (vUp V6 sc v9)) ∧ (f2 = 0 ∧ p2 = -1) ∧ (TH2 = zu TH sc 1) ∧ (GR2 = zu GR sc nu2) ∧ (SZ2 = zu SZ sc z9) ∧ (FL2 = zu FL sc wi) ∧ (cpS NO_ NO_2 NS2 (120 * sc) (120 * sc + 120) (120 * sc)) ∧ (nzI NZ NZ2 NM2 nu2 sc 10) ∧ (mdn TH2 NZ2 NO_2 GR2))) := ⟨_, rfl⟩
  rw [← hQ]
  change ab_W X (ab_pl y_MO_compile b_MO_compile 6 (some (.int))) d G 0 [some (vR 80), some (vz sc), some (vz wi), none, none, none] [] Q
  have hfr : fx o o [280, 287, 288, 293, 291, 292, 310, 311, 294, 295, 296, 297, 298, 299, 300, 301, 290, 289, 305, 306, 307, 308, 309, 302, 303, 304, 318, 319, 320, 321, 322, 323, 324, 317, 325, 333, 328, 329, 330, 331, 332, 312, 314, 315, 316, 313, 326, 327] G G := fx.rf
  have hlen : G.length = G.length := rfl
  have hsl : ab_slots G = ab_slots G := rfl
  refine ab_aload_n d_MO_compile_0 rfl ?_
  refine ab_iload_n d_MO_compile_1 rfl ?_
  refine zz_if_lt (tgt := 20) d_MO_compile_2 (by decide) (by omega) (fun c1 => ?_) (fun c1 => ?_)
  · refine zz_iconst d_MO_compile_20 ?_
    refine ab_goto (tgt := 25) d_MO_compile_21 (by decide) ?_
    refine ab_putf (fs := mof m_thrown m_taped m_length m_out m_wide m_gathered m_sets m_ranges m_nodes m_at m_flags m_fault m_place m_numbered m_depth m_value m_isNot m_least0 m_most0 m_slot m_work m_got m_rowMany m_charAt m_charWide m_trail m_isMatch m_matchGroups m_allFrom m_allBefore m_founds m_pieces m_writtenMany m_templateWide m_tooMuch) f_MO_220 (Or.inl rfl) d_MO_compile_25 h80.2.2 (Nat.le_of_ble_eq_true rfl) (fun _ => ⟨rfl, rfl⟩) (h80.2.1 (by decide)) ?_
    obtain ⟨G2, eG2⟩ : ∃ z : ab_G, z = List.set G 80 (ab_ob 12 (mof 1 m_taped m_length m_out m_wide m_gathered m_sets m_ranges m_nodes m_at m_flags m_fault m_place m_numbered m_depth m_value m_isNot m_least0 m_most0 m_slot m_work m_got m_rowMany m_charAt m_charWide m_trail m_isMatch m_matchGroups m_allFrom m_allBefore m_founds m_pieces m_writtenMany m_templateWide m_tooMuch)) := ⟨_, rfl⟩
    have h84 := h84.keep h80 eG2 (by decide)
    have h87 := h87.keep h80 eG2 (by decide)
    have h88 := h88.keep h80 eG2 (by decide)
    have h93 := h93.keep h80 eG2 (by decide)
    have h81 := h81.keep h80 eG2 (by decide)
    have h82 := h82.keep h80 eG2 (by decide)
    have h91 := h91.keep h80 eG2 (by decide)
    have h92 := h92.keep h80 eG2 (by decide)
    have h110 := h110.keep h80 eG2 (by decide)
    have h111 := h111.keep h80 eG2 (by decide)
    have h118 := h118.keep h80 eG2 (by decide)
    have h119 := h119.keep h80 eG2 (by decide)
    have h120 := h120.keep h80 eG2 (by decide)
    have h121 := h121.keep h80 eG2 (by decide)
    have h122 := h122.keep h80 eG2 (by decide)
    have h123 := h123.keep h80 eG2 (by decide)
    have h124 := h124.keep h80 eG2 (by decide)
    have h117 := h117.keep h80 eG2 (by decide)
    have h125 := h125.keep h80 eG2 (by decide)
    have h133 := h133.keep h80 eG2 (by decide)
    have h128 := h128.keep h80 eG2 (by decide)
    have h129 := h129.keep h80 eG2 (by decide)
    have h130 := h130.keep h80 eG2 (by decide)
    have h131 := h131.keep h80 eG2 (by decide)
    have h132 := h132.keep h80 eG2 (by decide)
    have h112 := h112.keep h80 eG2 (by decide)
    have h114 := h114.keep h80 eG2 (by decide)
    have h115 := h115.keep h80 eG2 (by decide)
    have h116 := h116.keep h80 eG2 (by decide)
    have h113 := h113.keep h80 eG2 (by decide)
    have h126 := h126.keep h80 eG2 (by decide)
    have h127 := h127.keep h80 eG2 (by decide)
    have hst := (fx.rf (o := o) (S := [280]) (G := G)).wr h80 eG2 (List.mem_singleton.mpr rfl)
    have ptrI_0 := trI.fr hst ptrI_0 (by decide) (by decide) (by decide) (by decide) (by decide) (by decide) (by decide) (by decide) (by decide) (by decide) (by decide) (by decide) (by decide) (by decide) (by decide) (by decide) (by decide) (by decide)
    have hlen := (z_len eG2).trans hlen
    have hsl := (z_sl h80 eG2 rfl).trans hsl
    have hfr := hfr.wr h80 eG2 (by decide)
    have h80 := h80.kept eG2
    change ab_W _ _ _ (List.set G 80 (ab_ob 12 (mof 1 m_taped m_length m_out m_wide m_gathered m_sets m_ranges m_nodes m_at m_flags m_fault m_place m_numbered m_depth m_value m_isNot m_least0 m_most0 m_slot m_work m_got m_rowMany m_charAt m_charWide m_trail m_isMatch m_matchGroups m_allFrom m_allBefore m_founds m_pieces m_writtenMany m_templateWide m_tooMuch))) 28 [some (vR 80), some (vz sc), some (vz wi), none, none, none] [] _
    rw [← eG2]
    refine ab_aload_n d_MO_compile_28 rfl ?_
    refine ab_getf (fs := mof 1 m_taped m_length m_out m_wide m_gathered m_sets m_ranges m_nodes m_at m_flags m_fault m_place m_numbered m_depth m_value m_isNot m_least0 m_most0 m_slot m_work m_got m_rowMany m_charAt m_charWide m_trail m_isMatch m_matchGroups m_allFrom m_allBefore m_founds m_pieces m_writtenMany m_templateWide m_tooMuch) f_MO_220 d_MO_compile_29 h80.2.2 rfl ?_
    refine zz_if_le (tgt := 37) d_MO_compile_32 (by decide) (by decide) (fun c3 => absurd c3 (by decide)) (fun c3 => ?_)
    refine zz_iconst d_MO_compile_35 ?_
    refine zz_iret rfl d_MO_compile_36 ?_
    rw [hQ]; exact (Or.inl ⟨rfl, hfr, hlen, hsl, h80, h84, h87, h88, h93, h81, h82, h91, h92, h110, h111, h118, h119, h120, h121, h122, h123, h124, h117, h125, h133, h128, h129, h130, h131, h132, h112, h114, h115, h116, h113, h126, h127, ptrI_0, (by omega)⟩)
  · refine ab_iload_n d_MO_compile_5 rfl ?_
    refine zz_iconst d_MO_compile_6 ?_
    refine zz_icmp_gt (tgt := 20) d_MO_compile_7 (by decide) (by omega) (by decide) (fun c4 => ?_) (fun c4 => ?_)
    · refine zz_iconst d_MO_compile_20 ?_
      refine ab_goto (tgt := 25) d_MO_compile_21 (by decide) ?_
      refine ab_putf (fs := mof m_thrown m_taped m_length m_out m_wide m_gathered m_sets m_ranges m_nodes m_at m_flags m_fault m_place m_numbered m_depth m_value m_isNot m_least0 m_most0 m_slot m_work m_got m_rowMany m_charAt m_charWide m_trail m_isMatch m_matchGroups m_allFrom m_allBefore m_founds m_pieces m_writtenMany m_templateWide m_tooMuch) f_MO_220 (Or.inl rfl) d_MO_compile_25 h80.2.2 (Nat.le_of_ble_eq_true rfl) (fun _ => ⟨rfl, rfl⟩) (h80.2.1 (by decide)) ?_
      obtain ⟨G5, eG5⟩ : ∃ z : ab_G, z = List.set G 80 (ab_ob 12 (mof 1 m_taped m_length m_out m_wide m_gathered m_sets m_ranges m_nodes m_at m_flags m_fault m_place m_numbered m_depth m_value m_isNot m_least0 m_most0 m_slot m_work m_got m_rowMany m_charAt m_charWide m_trail m_isMatch m_matchGroups m_allFrom m_allBefore m_founds m_pieces m_writtenMany m_templateWide m_tooMuch)) := ⟨_, rfl⟩
      have h84 := h84.keep h80 eG5 (by decide)
      have h87 := h87.keep h80 eG5 (by decide)
      have h88 := h88.keep h80 eG5 (by decide)
      have h93 := h93.keep h80 eG5 (by decide)
      have h81 := h81.keep h80 eG5 (by decide)
      have h82 := h82.keep h80 eG5 (by decide)
      have h91 := h91.keep h80 eG5 (by decide)
      have h92 := h92.keep h80 eG5 (by decide)
      have h110 := h110.keep h80 eG5 (by decide)
      have h111 := h111.keep h80 eG5 (by decide)
      have h118 := h118.keep h80 eG5 (by decide)
      have h119 := h119.keep h80 eG5 (by decide)
      have h120 := h120.keep h80 eG5 (by decide)
      have h121 := h121.keep h80 eG5 (by decide)
      have h122 := h122.keep h80 eG5 (by decide)
      have h123 := h123.keep h80 eG5 (by decide)
      have h124 := h124.keep h80 eG5 (by decide)
      have h117 := h117.keep h80 eG5 (by decide)
      have h125 := h125.keep h80 eG5 (by decide)
      have h133 := h133.keep h80 eG5 (by decide)
      have h128 := h128.keep h80 eG5 (by decide)
      have h129 := h129.keep h80 eG5 (by decide)
      have h130 := h130.keep h80 eG5 (by decide)
      have h131 := h131.keep h80 eG5 (by decide)
      have h132 := h132.keep h80 eG5 (by decide)
      have h112 := h112.keep h80 eG5 (by decide)
      have h114 := h114.keep h80 eG5 (by decide)
      have h115 := h115.keep h80 eG5 (by decide)
      have h116 := h116.keep h80 eG5 (by decide)
      have h113 := h113.keep h80 eG5 (by decide)
      have h126 := h126.keep h80 eG5 (by decide)
      have h127 := h127.keep h80 eG5 (by decide)
      have hst := (fx.rf (o := o) (S := [280]) (G := G)).wr h80 eG5 (List.mem_singleton.mpr rfl)
      have ptrI_0 := trI.fr hst ptrI_0 (by decide) (by decide) (by decide) (by decide) (by decide) (by decide) (by decide) (by decide) (by decide) (by decide) (by decide) (by decide) (by decide) (by decide) (by decide) (by decide) (by decide) (by decide)
      have hlen := (z_len eG5).trans hlen
      have hsl := (z_sl h80 eG5 rfl).trans hsl
      have hfr := hfr.wr h80 eG5 (by decide)
      have h80 := h80.kept eG5
      change ab_W _ _ _ (List.set G 80 (ab_ob 12 (mof 1 m_taped m_length m_out m_wide m_gathered m_sets m_ranges m_nodes m_at m_flags m_fault m_place m_numbered m_depth m_value m_isNot m_least0 m_most0 m_slot m_work m_got m_rowMany m_charAt m_charWide m_trail m_isMatch m_matchGroups m_allFrom m_allBefore m_founds m_pieces m_writtenMany m_templateWide m_tooMuch))) 28 [some (vR 80), some (vz sc), some (vz wi), none, none, none] [] _
      rw [← eG5]
      refine ab_aload_n d_MO_compile_28 rfl ?_
      refine ab_getf (fs := mof 1 m_taped m_length m_out m_wide m_gathered m_sets m_ranges m_nodes m_at m_flags m_fault m_place m_numbered m_depth m_value m_isNot m_least0 m_most0 m_slot m_work m_got m_rowMany m_charAt m_charWide m_trail m_isMatch m_matchGroups m_allFrom m_allBefore m_founds m_pieces m_writtenMany m_templateWide m_tooMuch) f_MO_220 d_MO_compile_29 h80.2.2 rfl ?_
      refine zz_if_le (tgt := 37) d_MO_compile_32 (by decide) (by decide) (fun c6 => absurd c6 (by decide)) (fun c6 => ?_)
      refine zz_iconst d_MO_compile_35 ?_
      refine zz_iret rfl d_MO_compile_36 ?_
      rw [hQ]; exact (Or.inl ⟨rfl, hfr, hlen, hsl, h80, h84, h87, h88, h93, h81, h82, h91, h92, h110, h111, h118, h119, h120, h121, h122, h123, h124, h117, h125, h133, h128, h129, h130, h131, h132, h112, h114, h115, h116, h113, h126, h127, ptrI_0, (by omega)⟩)
    · refine ab_iload_n d_MO_compile_10 rfl ?_
      refine zz_if_lt (tgt := 20) d_MO_compile_11 (by decide) (by omega) (fun c7 => ?_) (fun c7 => ?_)
      · refine zz_iconst d_MO_compile_20 ?_
        refine ab_goto (tgt := 25) d_MO_compile_21 (by decide) ?_
        refine ab_putf (fs := mof m_thrown m_taped m_length m_out m_wide m_gathered m_sets m_ranges m_nodes m_at m_flags m_fault m_place m_numbered m_depth m_value m_isNot m_least0 m_most0 m_slot m_work m_got m_rowMany m_charAt m_charWide m_trail m_isMatch m_matchGroups m_allFrom m_allBefore m_founds m_pieces m_writtenMany m_templateWide m_tooMuch) f_MO_220 (Or.inl rfl) d_MO_compile_25 h80.2.2 (Nat.le_of_ble_eq_true rfl) (fun _ => ⟨rfl, rfl⟩) (h80.2.1 (by decide)) ?_
        obtain ⟨G8, eG8⟩ : ∃ z : ab_G, z = List.set G 80 (ab_ob 12 (mof 1 m_taped m_length m_out m_wide m_gathered m_sets m_ranges m_nodes m_at m_flags m_fault m_place m_numbered m_depth m_value m_isNot m_least0 m_most0 m_slot m_work m_got m_rowMany m_charAt m_charWide m_trail m_isMatch m_matchGroups m_allFrom m_allBefore m_founds m_pieces m_writtenMany m_templateWide m_tooMuch)) := ⟨_, rfl⟩
        have h84 := h84.keep h80 eG8 (by decide)
        have h87 := h87.keep h80 eG8 (by decide)
        have h88 := h88.keep h80 eG8 (by decide)
        have h93 := h93.keep h80 eG8 (by decide)
        have h81 := h81.keep h80 eG8 (by decide)
        have h82 := h82.keep h80 eG8 (by decide)
        have h91 := h91.keep h80 eG8 (by decide)
        have h92 := h92.keep h80 eG8 (by decide)
        have h110 := h110.keep h80 eG8 (by decide)
        have h111 := h111.keep h80 eG8 (by decide)
        have h118 := h118.keep h80 eG8 (by decide)
        have h119 := h119.keep h80 eG8 (by decide)
        have h120 := h120.keep h80 eG8 (by decide)
        have h121 := h121.keep h80 eG8 (by decide)
        have h122 := h122.keep h80 eG8 (by decide)
        have h123 := h123.keep h80 eG8 (by decide)
        have h124 := h124.keep h80 eG8 (by decide)
        have h117 := h117.keep h80 eG8 (by decide)
        have h125 := h125.keep h80 eG8 (by decide)
        have h133 := h133.keep h80 eG8 (by decide)
        have h128 := h128.keep h80 eG8 (by decide)
        have h129 := h129.keep h80 eG8 (by decide)
        have h130 := h130.keep h80 eG8 (by decide)
        have h131 := h131.keep h80 eG8 (by decide)
        have h132 := h132.keep h80 eG8 (by decide)
        have h112 := h112.keep h80 eG8 (by decide)
        have h114 := h114.keep h80 eG8 (by decide)
        have h115 := h115.keep h80 eG8 (by decide)
        have h116 := h116.keep h80 eG8 (by decide)
        have h113 := h113.keep h80 eG8 (by decide)
        have h126 := h126.keep h80 eG8 (by decide)
        have h127 := h127.keep h80 eG8 (by decide)
        have hst := (fx.rf (o := o) (S := [280]) (G := G)).wr h80 eG8 (List.mem_singleton.mpr rfl)
        have ptrI_0 := trI.fr hst ptrI_0 (by decide) (by decide) (by decide) (by decide) (by decide) (by decide) (by decide) (by decide) (by decide) (by decide) (by decide) (by decide) (by decide) (by decide) (by decide) (by decide) (by decide) (by decide)
        have hlen := (z_len eG8).trans hlen
        have hsl := (z_sl h80 eG8 rfl).trans hsl
        have hfr := hfr.wr h80 eG8 (by decide)
        have h80 := h80.kept eG8
        change ab_W _ _ _ (List.set G 80 (ab_ob 12 (mof 1 m_taped m_length m_out m_wide m_gathered m_sets m_ranges m_nodes m_at m_flags m_fault m_place m_numbered m_depth m_value m_isNot m_least0 m_most0 m_slot m_work m_got m_rowMany m_charAt m_charWide m_trail m_isMatch m_matchGroups m_allFrom m_allBefore m_founds m_pieces m_writtenMany m_templateWide m_tooMuch))) 28 [some (vR 80), some (vz sc), some (vz wi), none, none, none] [] _
        rw [← eG8]
        refine ab_aload_n d_MO_compile_28 rfl ?_
        refine ab_getf (fs := mof 1 m_taped m_length m_out m_wide m_gathered m_sets m_ranges m_nodes m_at m_flags m_fault m_place m_numbered m_depth m_value m_isNot m_least0 m_most0 m_slot m_work m_got m_rowMany m_charAt m_charWide m_trail m_isMatch m_matchGroups m_allFrom m_allBefore m_founds m_pieces m_writtenMany m_templateWide m_tooMuch) f_MO_220 d_MO_compile_29 h80.2.2 rfl ?_
        refine zz_if_le (tgt := 37) d_MO_compile_32 (by decide) (by decide) (fun c9 => absurd c9 (by decide)) (fun c9 => ?_)
        refine zz_iconst d_MO_compile_35 ?_
        refine zz_iret rfl d_MO_compile_36 ?_
        rw [hQ]; exact (Or.inl ⟨rfl, hfr, hlen, hsl, h80, h84, h87, h88, h93, h81, h82, h91, h92, h110, h111, h118, h119, h120, h121, h122, h123, h124, h117, h125, h133, h128, h129, h130, h131, h132, h112, h114, h115, h116, h113, h126, h127, ptrI_0, (by omega)⟩)
      · refine ab_iload_n d_MO_compile_14 rfl ?_
        refine zz_bipush d_MO_compile_15 (by decide) ?_
        refine zz_icmp_le (tgt := 24) d_MO_compile_17 (by decide) (by omega) (by decide) (fun c10 => ?_) (fun c10 => ?_)
        · refine zz_iconst d_MO_compile_24 ?_
          refine ab_putf (fs := mof m_thrown m_taped m_length m_out m_wide m_gathered m_sets m_ranges m_nodes m_at m_flags m_fault m_place m_numbered m_depth m_value m_isNot m_least0 m_most0 m_slot m_work m_got m_rowMany m_charAt m_charWide m_trail m_isMatch m_matchGroups m_allFrom m_allBefore m_founds m_pieces m_writtenMany m_templateWide m_tooMuch) f_MO_220 (Or.inl rfl) d_MO_compile_25 h80.2.2 (Nat.le_of_ble_eq_true rfl) (fun _ => ⟨rfl, rfl⟩) (h80.2.1 (by decide)) ?_
          obtain ⟨G11, eG11⟩ : ∃ z : ab_G, z = List.set G 80 (ab_ob 12 (mof 0 m_taped m_length m_out m_wide m_gathered m_sets m_ranges m_nodes m_at m_flags m_fault m_place m_numbered m_depth m_value m_isNot m_least0 m_most0 m_slot m_work m_got m_rowMany m_charAt m_charWide m_trail m_isMatch m_matchGroups m_allFrom m_allBefore m_founds m_pieces m_writtenMany m_templateWide m_tooMuch)) := ⟨_, rfl⟩
          have h84 := h84.keep h80 eG11 (by decide)
          have h87 := h87.keep h80 eG11 (by decide)
          have h88 := h88.keep h80 eG11 (by decide)
          have h93 := h93.keep h80 eG11 (by decide)
          have h81 := h81.keep h80 eG11 (by decide)
          have h82 := h82.keep h80 eG11 (by decide)
          have h91 := h91.keep h80 eG11 (by decide)
          have h92 := h92.keep h80 eG11 (by decide)
          have h110 := h110.keep h80 eG11 (by decide)
          have h111 := h111.keep h80 eG11 (by decide)
          have h118 := h118.keep h80 eG11 (by decide)
          have h119 := h119.keep h80 eG11 (by decide)
          have h120 := h120.keep h80 eG11 (by decide)
          have h121 := h121.keep h80 eG11 (by decide)
          have h122 := h122.keep h80 eG11 (by decide)
          have h123 := h123.keep h80 eG11 (by decide)
          have h124 := h124.keep h80 eG11 (by decide)
          have h117 := h117.keep h80 eG11 (by decide)
          have h125 := h125.keep h80 eG11 (by decide)
          have h133 := h133.keep h80 eG11 (by decide)
          have h128 := h128.keep h80 eG11 (by decide)
          have h129 := h129.keep h80 eG11 (by decide)
          have h130 := h130.keep h80 eG11 (by decide)
          have h131 := h131.keep h80 eG11 (by decide)
          have h132 := h132.keep h80 eG11 (by decide)
          have h112 := h112.keep h80 eG11 (by decide)
          have h114 := h114.keep h80 eG11 (by decide)
          have h115 := h115.keep h80 eG11 (by decide)
          have h116 := h116.keep h80 eG11 (by decide)
          have h113 := h113.keep h80 eG11 (by decide)
          have h126 := h126.keep h80 eG11 (by decide)
          have h127 := h127.keep h80 eG11 (by decide)
          have hst := (fx.rf (o := o) (S := [280]) (G := G)).wr h80 eG11 (List.mem_singleton.mpr rfl)
          have ptrI_0 := trI.fr hst ptrI_0 (by decide) (by decide) (by decide) (by decide) (by decide) (by decide) (by decide) (by decide) (by decide) (by decide) (by decide) (by decide) (by decide) (by decide) (by decide) (by decide) (by decide) (by decide)
          have hlen := (z_len eG11).trans hlen
          have hsl := (z_sl h80 eG11 rfl).trans hsl
          have hfr := hfr.wr h80 eG11 (by decide)
          have h80 := h80.kept eG11
          change ab_W _ _ _ (List.set G 80 (ab_ob 12 (mof 0 m_taped m_length m_out m_wide m_gathered m_sets m_ranges m_nodes m_at m_flags m_fault m_place m_numbered m_depth m_value m_isNot m_least0 m_most0 m_slot m_work m_got m_rowMany m_charAt m_charWide m_trail m_isMatch m_matchGroups m_allFrom m_allBefore m_founds m_pieces m_writtenMany m_templateWide m_tooMuch))) 28 [some (vR 80), some (vz sc), some (vz wi), none, none, none] [] _
          rw [← eG11]
          refine ab_aload_n d_MO_compile_28 rfl ?_
          refine ab_getf (fs := mof 0 m_taped m_length m_out m_wide m_gathered m_sets m_ranges m_nodes m_at m_flags m_fault m_place m_numbered m_depth m_value m_isNot m_least0 m_most0 m_slot m_work m_got m_rowMany m_charAt m_charWide m_trail m_isMatch m_matchGroups m_allFrom m_allBefore m_founds m_pieces m_writtenMany m_templateWide m_tooMuch) f_MO_220 d_MO_compile_29 h80.2.2 rfl ?_
          refine zz_if_le (tgt := 37) d_MO_compile_32 (by decide) (by decide) (fun c12 => ?_) (fun c12 => absurd c12 (by decide))
          refine ab_aload_n d_MO_compile_37 rfl ?_
          refine ab_iload_n d_MO_compile_38 rfl ?_
          refine zz_bipush d_MO_compile_39 (by decide) ?_
          refine zz_iand 4 16 d_MO_compile_41 (by decide) (by decide) (by decide) (by decide) ?_
          refine ab_callV (d' := d - 1) (as := [vz (wi % 16)]) (st := []) (r := _) (z_MO_read (o := o) (m_thrown := 0) (m_taped := m_taped) (m_length := m_length) (m_out := m_out) (m_wide := m_wide) (m_gathered := m_gathered) (m_sets := m_sets) (m_ranges := m_ranges) (m_nodes := m_nodes) (m_at := m_at) (m_flags := m_flags) (m_fault := m_fault) (m_place := m_place) (m_numbered := m_numbered) (m_depth := m_depth) (m_value := m_value) (m_isNot := m_isNot) (m_least0 := m_least0) (m_most0 := m_most0) (m_slot := m_slot) (m_work := m_work) (m_got := m_got) (m_rowMany := m_rowMany) (m_charAt := m_charAt) (m_charWide := m_charWide) (m_trail := m_trail) (m_isMatch := m_isMatch) (m_matchGroups := m_matchGroups) (m_allFrom := m_allFrom) (m_allBefore := m_allBefore) (m_founds := m_founds) (m_pieces := m_pieces) (m_writtenMany := m_writtenMany) (m_templateWide := m_templateWide) (m_tooMuch := m_tooMuch) (A_tape := A_tape) (LO := LO) (HI := HI) (MK := MK) (RL := RL) (RH := RH) (NS := NS) (NM := NM) (fr := fr) (rp := rp) (ls := ls) (dz := dz) (SV := SV) (FS := FS) (ro := ro) (vv := vv) (dv := dv) (nu9 := nu9) (fo9 := fo9) (wi := (wi % 16)) (nd0 := nd0) (ns0 := ns0) (lv0 := lv0) (dn0 := dn0) (dh0 := dh0) (re0 := re0) h80 h84 h87 h88 h93 h81 h82 h91 h92 h110 h111 ptrI_0 (by omega) (by omega) jtp jmk jrl jrh jns jnm (by omega) (by omega) (by omega)) (fun oc G2 h => by rcases h with ⟨_, _, _, _, _, _, _, _, _, _, _, _, _, _, _, _, _, _, _, _, _, _, _, _, _, _, _, _, h, _⟩ | ⟨_, _, _, _, _, _, _, _, _, _, _, _, _, _, _, _, _, _, _, _, _, _, _, _, _, _, _, _, _, _, _, _, _, _, _, h, _⟩ <;> exact ⟨_, h⟩) (by omega) m_MO_read ml_MO_501 im_MO_read se_MO_read c_MO h80.2.2 (Nat.le_of_ble_eq_true rfl) d_MO_compile_42 rfl ?_
          intro v G13 hq
          rcases hq with ⟨v14, a215, v216, nt217, w218, g219, s220, r221, n222, fl223, nu224, d225, le226, mo227, f228, p229, LO230, HI231, MK232, RL233, RH234, NS235, NM236, fr237, z938, SV239, FS240, v941, hv, hfk, hlk, hsk, hN80, hN87, hN88, hN93, hN91, hN92, hN110, hN111, pNtrI_0, hq42, hq43, hq44, hq45, hq46, hq47, hq48, hq49, hq50⟩ | ⟨v51, a252, v253, nt254, w255, g256, s257, r258, n259, fl260, nu261, d262, le263, mo264, f265, p266, lv267, dn268, dh269, LO270, HI271, MK272, RL273, RH274, NS275, NM276, fr277, rp278, ls279, dz280, SV281, FS282, ro283, vv284, dv285, hv, hfk, hlk, hsk, hN80, hN87, hN88, hN93, hN91, hN92, hN110, hN111, pNtrI_0, hq86, hq87, hq88, hq89, hq90, hq91, hq92⟩
          · cases hv
            have h84 := hfk.get h84 (by decide)
            have h81 := hfk.get h81 (by decide)
            have h82 := hfk.get h82 (by decide)
            have h118 := hfk.get h118 (by decide)
            have h119 := hfk.get h119 (by decide)
            have h120 := hfk.get h120 (by decide)
            have h121 := hfk.get h121 (by decide)
            have h122 := hfk.get h122 (by decide)
            have h123 := hfk.get h123 (by decide)
            have h124 := hfk.get h124 (by decide)
            have h117 := hfk.get h117 (by decide)
            have h125 := hfk.get h125 (by decide)
            have h133 := hfk.get h133 (by decide)
            have h128 := hfk.get h128 (by decide)
            have h129 := hfk.get h129 (by decide)
            have h130 := hfk.get h130 (by decide)
            have h131 := hfk.get h131 (by decide)
            have h132 := hfk.get h132 (by decide)
            have h112 := hfk.get h112 (by decide)
            have h114 := hfk.get h114 (by decide)
            have h115 := hfk.get h115 (by decide)
            have h116 := hfk.get h116 (by decide)
            have h113 := hfk.get h113 (by decide)
            have h126 := hfk.get h126 (by decide)
            have h127 := hfk.get h127 (by decide)
            have ptrI_0 := pNtrI_0
            have hfr := hfr.tr hfk (by decide)
            have hlen := hlk.trans hlen
            have hsl := hsk.trans hsl
            have h80 := hN80
            have h87 := hN87
            have h88 := hN88
            have h93 := hN93
            have h91 := hN91
            have h92 := hN92
            have h110 := hN110
            have h111 := hN111
            change ab_W _ _ _ G13 45 [some (vR 80), some (vz sc), some (vz wi), none, none, none] [vz v14] _
            refine ab_istore_n d_MO_compile_45 (Nat.le_of_ble_eq_true rfl) (Nat.le_of_ble_eq_true rfl) rfl ?_
            change ab_W _ _ _ G13 46 [some (vR 80), some (vz sc), some (vz wi), some (vz v14), none, none] [] _
            refine ab_aload_n d_MO_compile_46 rfl ?_
            refine zz_iconst d_MO_compile_47 ?_
            refine ab_putf (fs := mof 0 m_taped m_length m_out w218 g219 s220 r221 n222 a215 fl223 f228 p229 nu224 d225 v216 nt217 le226 mo227 m_slot m_work m_got m_rowMany m_charAt m_charWide m_trail m_isMatch m_matchGroups m_allFrom m_allBefore m_founds m_pieces m_writtenMany m_templateWide m_tooMuch) f_MO_223 (Or.inl rfl) d_MO_compile_48 h80.2.2 (Nat.le_of_ble_eq_true rfl) (fun _ => ⟨rfl, rfl⟩) (h80.2.1 (by decide)) ?_
            obtain ⟨G93, eG93⟩ : ∃ z : ab_G, z = List.set G13 80 (ab_ob 12 (mof 0 0 m_length m_out w218 g219 s220 r221 n222 a215 fl223 f228 p229 nu224 d225 v216 nt217 le226 mo227 m_slot m_work m_got m_rowMany m_charAt m_charWide m_trail m_isMatch m_matchGroups m_allFrom m_allBefore m_founds m_pieces m_writtenMany m_templateWide m_tooMuch)) := ⟨_, rfl⟩
            have h84 := h84.keep h80 eG93 (by decide)
            have h87 := h87.keep h80 eG93 (by decide)
            have h88 := h88.keep h80 eG93 (by decide)
            have h93 := h93.keep h80 eG93 (by decide)
            have h81 := h81.keep h80 eG93 (by decide)
            have h82 := h82.keep h80 eG93 (by decide)
            have h91 := h91.keep h80 eG93 (by decide)
            have h92 := h92.keep h80 eG93 (by decide)
            have h110 := h110.keep h80 eG93 (by decide)
            have h111 := h111.keep h80 eG93 (by decide)
            have h118 := h118.keep h80 eG93 (by decide)
            have h119 := h119.keep h80 eG93 (by decide)
            have h120 := h120.keep h80 eG93 (by decide)
            have h121 := h121.keep h80 eG93 (by decide)
            have h122 := h122.keep h80 eG93 (by decide)
            have h123 := h123.keep h80 eG93 (by decide)
            have h124 := h124.keep h80 eG93 (by decide)
            have h117 := h117.keep h80 eG93 (by decide)
            have h125 := h125.keep h80 eG93 (by decide)
            have h133 := h133.keep h80 eG93 (by decide)
            have h128 := h128.keep h80 eG93 (by decide)
            have h129 := h129.keep h80 eG93 (by decide)
            have h130 := h130.keep h80 eG93 (by decide)
            have h131 := h131.keep h80 eG93 (by decide)
            have h132 := h132.keep h80 eG93 (by decide)
            have h112 := h112.keep h80 eG93 (by decide)
            have h114 := h114.keep h80 eG93 (by decide)
            have h115 := h115.keep h80 eG93 (by decide)
            have h116 := h116.keep h80 eG93 (by decide)
            have h113 := h113.keep h80 eG93 (by decide)
            have h126 := h126.keep h80 eG93 (by decide)
            have h127 := h127.keep h80 eG93 (by decide)
            have hst := (fx.rf (o := o) (S := [280]) (G := G13)).wr h80 eG93 (List.mem_singleton.mpr rfl)
            have ptrI_0 := trI.fr hst ptrI_0 (by decide) (by decide) (by decide) (by decide) (by decide) (by decide) (by decide) (by decide) (by decide) (by decide) (by decide) (by decide) (by decide) (by decide) (by decide) (by decide) (by decide) (by decide)
            have hlen := (z_len eG93).trans hlen
            have hsl := (z_sl h80 eG93 rfl).trans hsl
            have hfr := hfr.wr h80 eG93 (by decide)
            have h80 := h80.kept eG93
            change ab_W _ _ _ (List.set G13 80 (ab_ob 12 (mof 0 0 m_length m_out w218 g219 s220 r221 n222 a215 fl223 f228 p229 nu224 d225 v216 nt217 le226 mo227 m_slot m_work m_got m_rowMany m_charAt m_charWide m_trail m_isMatch m_matchGroups m_allFrom m_allBefore m_founds m_pieces m_writtenMany m_templateWide m_tooMuch))) 51 [some (vR 80), some (vz sc), some (vz wi), some (vz v14), none, none] [] _
            rw [← eG93]
            refine ab_aload_n d_MO_compile_51 rfl ?_
            refine ab_aload_n d_MO_compile_52 rfl ?_
            refine ab_getf (fs := mof 0 0 m_length m_out w218 g219 s220 r221 n222 a215 fl223 f228 p229 nu224 d225 v216 nt217 le226 mo227 m_slot m_work m_got m_rowMany m_charAt m_charWide m_trail m_isMatch m_matchGroups m_allFrom m_allBefore m_founds m_pieces m_writtenMany m_templateWide m_tooMuch) f_MO_273 d_MO_compile_53 h80.2.2 rfl ?_
            refine zz_if_le (tgt := 63) d_MO_compile_56 (by decide) (by omega) (fun c94 => ?_) (fun c94 => absurd c94 (by omega))
            refine zz_iconst d_MO_compile_63 ?_
            refine ab_putf (fs := mof 0 0 m_length m_out w218 g219 s220 r221 n222 a215 fl223 f228 p229 nu224 d225 v216 nt217 le226 mo227 m_slot m_work m_got m_rowMany m_charAt m_charWide m_trail m_isMatch m_matchGroups m_allFrom m_allBefore m_founds m_pieces m_writtenMany m_templateWide m_tooMuch) f_MO_220 (Or.inl rfl) d_MO_compile_64 h80.2.2 (Nat.le_of_ble_eq_true rfl) (fun _ => ⟨rfl, rfl⟩) (h80.2.1 (by decide)) ?_
            obtain ⟨G95, eG95⟩ : ∃ z : ab_G, z = List.set G93 80 (ab_ob 12 (mof 0 0 m_length m_out w218 g219 s220 r221 n222 a215 fl223 f228 p229 nu224 d225 v216 nt217 le226 mo227 m_slot m_work m_got m_rowMany m_charAt m_charWide m_trail m_isMatch m_matchGroups m_allFrom m_allBefore m_founds m_pieces m_writtenMany m_templateWide m_tooMuch)) := ⟨_, rfl⟩
            have h84 := h84.keep h80 eG95 (by decide)
            have h87 := h87.keep h80 eG95 (by decide)
            have h88 := h88.keep h80 eG95 (by decide)
            have h93 := h93.keep h80 eG95 (by decide)
            have h81 := h81.keep h80 eG95 (by decide)
            have h82 := h82.keep h80 eG95 (by decide)
            have h91 := h91.keep h80 eG95 (by decide)
            have h92 := h92.keep h80 eG95 (by decide)
            have h110 := h110.keep h80 eG95 (by decide)
            have h111 := h111.keep h80 eG95 (by decide)
            have h118 := h118.keep h80 eG95 (by decide)
            have h119 := h119.keep h80 eG95 (by decide)
            have h120 := h120.keep h80 eG95 (by decide)
            have h121 := h121.keep h80 eG95 (by decide)
            have h122 := h122.keep h80 eG95 (by decide)
            have h123 := h123.keep h80 eG95 (by decide)
            have h124 := h124.keep h80 eG95 (by decide)
            have h117 := h117.keep h80 eG95 (by decide)
            have h125 := h125.keep h80 eG95 (by decide)
            have h133 := h133.keep h80 eG95 (by decide)
            have h128 := h128.keep h80 eG95 (by decide)
            have h129 := h129.keep h80 eG95 (by decide)
            have h130 := h130.keep h80 eG95 (by decide)
            have h131 := h131.keep h80 eG95 (by decide)
            have h132 := h132.keep h80 eG95 (by decide)
            have h112 := h112.keep h80 eG95 (by decide)
            have h114 := h114.keep h80 eG95 (by decide)
            have h115 := h115.keep h80 eG95 (by decide)
            have h116 := h116.keep h80 eG95 (by decide)
            have h113 := h113.keep h80 eG95 (by decide)
            have h126 := h126.keep h80 eG95 (by decide)
            have h127 := h127.keep h80 eG95 (by decide)
            have hst := (fx.rf (o := o) (S := [280]) (G := G93)).wr h80 eG95 (List.mem_singleton.mpr rfl)
            have ptrI_0 := trI.fr hst ptrI_0 (by decide) (by decide) (by decide) (by decide) (by decide) (by decide) (by decide) (by decide) (by decide) (by decide) (by decide) (by decide) (by decide) (by decide) (by decide) (by decide) (by decide) (by decide)
            have hlen := (z_len eG95).trans hlen
            have hsl := (z_sl h80 eG95 rfl).trans hsl
            have hfr := hfr.wr h80 eG95 (by decide)
            have h80 := h80.kept eG95
            change ab_W _ _ _ (List.set G93 80 (ab_ob 12 (mof 0 0 m_length m_out w218 g219 s220 r221 n222 a215 fl223 f228 p229 nu224 d225 v216 nt217 le226 mo227 m_slot m_work m_got m_rowMany m_charAt m_charWide m_trail m_isMatch m_matchGroups m_allFrom m_allBefore m_founds m_pieces m_writtenMany m_templateWide m_tooMuch))) 67 [some (vR 80), some (vz sc), some (vz wi), some (vz v14), none, none] [] _
            rw [← eG95]
            refine ab_aload_n d_MO_compile_67 rfl ?_
            refine ab_getf (fs := mof 0 0 m_length m_out w218 g219 s220 r221 n222 a215 fl223 f228 p229 nu224 d225 v216 nt217 le226 mo227 m_slot m_work m_got m_rowMany m_charAt m_charWide m_trail m_isMatch m_matchGroups m_allFrom m_allBefore m_founds m_pieces m_writtenMany m_templateWide m_tooMuch) f_MO_220 d_MO_compile_68 h80.2.2 rfl ?_
            refine zz_if_le (tgt := 76) d_MO_compile_71 (by decide) (by decide) (fun c96 => ?_) (fun c96 => absurd c96 (by decide))
            refine ab_aload_n d_MO_compile_76 rfl ?_
            refine ab_iload_n d_MO_compile_77 rfl ?_
            refine ab_putf (fs := mof 0 0 m_length m_out w218 g219 s220 r221 n222 a215 fl223 f228 p229 nu224 d225 v216 nt217 le226 mo227 m_slot m_work m_got m_rowMany m_charAt m_charWide m_trail m_isMatch m_matchGroups m_allFrom m_allBefore m_founds m_pieces m_writtenMany m_templateWide m_tooMuch) f_MO_438 (Or.inl rfl) d_MO_compile_78 h80.2.2 (Nat.le_of_ble_eq_true rfl) (fun _ => ⟨rfl, rfl⟩) (h80.2.1 (by decide)) ?_
            obtain ⟨G97, eG97⟩ : ∃ z : ab_G, z = List.set G95 80 (ab_ob 12 (mof 0 0 m_length m_out w218 g219 s220 r221 n222 a215 fl223 f228 p229 nu224 d225 v216 nt217 le226 mo227 sc m_work m_got m_rowMany m_charAt m_charWide m_trail m_isMatch m_matchGroups m_allFrom m_allBefore m_founds m_pieces m_writtenMany m_templateWide m_tooMuch)) := ⟨_, rfl⟩
            have h84 := h84.keep h80 eG97 (by decide)
            have h87 := h87.keep h80 eG97 (by decide)
            have h88 := h88.keep h80 eG97 (by decide)
            have h93 := h93.keep h80 eG97 (by decide)
            have h81 := h81.keep h80 eG97 (by decide)
            have h82 := h82.keep h80 eG97 (by decide)
            have h91 := h91.keep h80 eG97 (by decide)
            have h92 := h92.keep h80 eG97 (by decide)
            have h110 := h110.keep h80 eG97 (by decide)
            have h111 := h111.keep h80 eG97 (by decide)
            have h118 := h118.keep h80 eG97 (by decide)
            have h119 := h119.keep h80 eG97 (by decide)
            have h120 := h120.keep h80 eG97 (by decide)
            have h121 := h121.keep h80 eG97 (by decide)
            have h122 := h122.keep h80 eG97 (by decide)
            have h123 := h123.keep h80 eG97 (by decide)
            have h124 := h124.keep h80 eG97 (by decide)
            have h117 := h117.keep h80 eG97 (by decide)
            have h125 := h125.keep h80 eG97 (by decide)
            have h133 := h133.keep h80 eG97 (by decide)
            have h128 := h128.keep h80 eG97 (by decide)
            have h129 := h129.keep h80 eG97 (by decide)
            have h130 := h130.keep h80 eG97 (by decide)
            have h131 := h131.keep h80 eG97 (by decide)
            have h132 := h132.keep h80 eG97 (by decide)
            have h112 := h112.keep h80 eG97 (by decide)
            have h114 := h114.keep h80 eG97 (by decide)
            have h115 := h115.keep h80 eG97 (by decide)
            have h116 := h116.keep h80 eG97 (by decide)
            have h113 := h113.keep h80 eG97 (by decide)
            have h126 := h126.keep h80 eG97 (by decide)
            have h127 := h127.keep h80 eG97 (by decide)
            have hst := (fx.rf (o := o) (S := [280]) (G := G95)).wr h80 eG97 (List.mem_singleton.mpr rfl)
            have ptrI_0 := trI.fr hst ptrI_0 (by decide) (by decide) (by decide) (by decide) (by decide) (by decide) (by decide) (by decide) (by decide) (by decide) (by decide) (by decide) (by decide) (by decide) (by decide) (by decide) (by decide) (by decide)
            have hlen := (z_len eG97).trans hlen
            have hsl := (z_sl h80 eG97 rfl).trans hsl
            have hfr := hfr.wr h80 eG97 (by decide)
            have h80 := h80.kept eG97
            change ab_W _ _ _ (List.set G95 80 (ab_ob 12 (mof 0 0 m_length m_out w218 g219 s220 r221 n222 a215 fl223 f228 p229 nu224 d225 v216 nt217 le226 mo227 sc m_work m_got m_rowMany m_charAt m_charWide m_trail m_isMatch m_matchGroups m_allFrom m_allBefore m_founds m_pieces m_writtenMany m_templateWide m_tooMuch))) 81 [some (vR 80), some (vz sc), some (vz wi), some (vz v14), none, none] [] _
            rw [← eG97]
            refine ab_aload_n d_MO_compile_81 rfl ?_
            refine ab_getf (fs := mof 0 0 m_length m_out w218 g219 s220 r221 n222 a215 fl223 f228 p229 nu224 d225 v216 nt217 le226 mo227 sc m_work m_got m_rowMany m_charAt m_charWide m_trail m_isMatch m_matchGroups m_allFrom m_allBefore m_founds m_pieces m_writtenMany m_templateWide m_tooMuch) f_MO_109 d_MO_compile_82 h80.2.2 rfl ?_
            refine ab_iload_n d_MO_compile_85 rfl ?_
            refine zz_iconst d_MO_compile_86 ?_
            refine zz_zast d_MO_compile_87 h112 (by omega) (by decide) (h112.2.1 (by decide)) ?_
            obtain ⟨G98, eG98⟩ : ∃ z : ab_G, z = List.set G97 112 (zb 6 (zu TH sc 1)) := ⟨_, rfl⟩
            have h80 := h80.keep h112 eG98 (by decide)
            have h84 := h84.keep h112 eG98 (by decide)
            have h87 := h87.keep h112 eG98 (by decide)
            have h88 := h88.keep h112 eG98 (by decide)
            have h93 := h93.keep h112 eG98 (by decide)
            have h81 := h81.keep h112 eG98 (by decide)
            have h82 := h82.keep h112 eG98 (by decide)
            have h91 := h91.keep h112 eG98 (by decide)
            have h92 := h92.keep h112 eG98 (by decide)
            have h110 := h110.keep h112 eG98 (by decide)
            have h111 := h111.keep h112 eG98 (by decide)
            have h118 := h118.keep h112 eG98 (by decide)
            have h119 := h119.keep h112 eG98 (by decide)
            have h120 := h120.keep h112 eG98 (by decide)
            have h121 := h121.keep h112 eG98 (by decide)
            have h122 := h122.keep h112 eG98 (by decide)
            have h123 := h123.keep h112 eG98 (by decide)
            have h124 := h124.keep h112 eG98 (by decide)
            have h117 := h117.keep h112 eG98 (by decide)
            have h125 := h125.keep h112 eG98 (by decide)
            have h133 := h133.keep h112 eG98 (by decide)
            have h128 := h128.keep h112 eG98 (by decide)
            have h129 := h129.keep h112 eG98 (by decide)
            have h130 := h130.keep h112 eG98 (by decide)
            have h131 := h131.keep h112 eG98 (by decide)
            have h132 := h132.keep h112 eG98 (by decide)
            have h114 := h114.keep h112 eG98 (by decide)
            have h115 := h115.keep h112 eG98 (by decide)
            have h116 := h116.keep h112 eG98 (by decide)
            have h113 := h113.keep h112 eG98 (by decide)
            have h126 := h126.keep h112 eG98 (by decide)
            have h127 := h127.keep h112 eG98 (by decide)
            have hst := (fx.rf (o := o) (S := [312]) (G := G97)).wr h112 eG98 (List.mem_singleton.mpr rfl)
            have ptrI_0 := trI.fr hst ptrI_0 (by decide) (by decide) (by decide) (by decide) (by decide) (by decide) (by decide) (by decide) (by decide) (by decide) (by decide) (by decide) (by decide) (by decide) (by decide) (by decide) (by decide) (by decide)
            have hlen := (z_len eG98).trans hlen
            have hsl := (z_sl h112 eG98 rfl).trans hsl
            have hfr := hfr.wr h112 eG98 (by decide)
            have h112 := h112.kept eG98
            change ab_W _ _ _ (List.set G97 112 (zb 6 (zu TH sc 1))) 88 [some (vR 80), some (vz sc), some (vz wi), some (vz v14), none, none] [] _
            rw [← eG98]
            refine ab_aload_n d_MO_compile_88 rfl ?_
            refine ab_getf (fs := mof 0 0 m_length m_out w218 g219 s220 r221 n222 a215 fl223 f228 p229 nu224 d225 v216 nt217 le226 mo227 sc m_work m_got m_rowMany m_charAt m_charWide m_trail m_isMatch m_matchGroups m_allFrom m_allBefore m_founds m_pieces m_writtenMany m_templateWide m_tooMuch) f_MO_115 d_MO_compile_89 h80.2.2 rfl ?_
            refine ab_iload_n d_MO_compile_92 rfl ?_
            refine ab_aload_n d_MO_compile_93 rfl ?_
            refine ab_getf (fs := mof 0 0 m_length m_out w218 g219 s220 r221 n222 a215 fl223 f228 p229 nu224 d225 v216 nt217 le226 mo227 sc m_work m_got m_rowMany m_charAt m_charWide m_trail m_isMatch m_matchGroups m_allFrom m_allBefore m_founds m_pieces m_writtenMany m_templateWide m_tooMuch) f_MO_395 d_MO_compile_94 h80.2.2 rfl ?_
            refine zz_iast d_MO_compile_97 h114 (by omega) (h114.2.1 (by decide)) ?_
            obtain ⟨G99, eG99⟩ : ∃ z : ab_G, z = List.set G98 114 (za 6 (zu GR sc nu224)) := ⟨_, rfl⟩
            have h80 := h80.keep h114 eG99 (by decide)
            have h84 := h84.keep h114 eG99 (by decide)
            have h87 := h87.keep h114 eG99 (by decide)
            have h88 := h88.keep h114 eG99 (by decide)
            have h93 := h93.keep h114 eG99 (by decide)
            have h81 := h81.keep h114 eG99 (by decide)
            have h82 := h82.keep h114 eG99 (by decide)
            have h91 := h91.keep h114 eG99 (by decide)
            have h92 := h92.keep h114 eG99 (by decide)
            have h110 := h110.keep h114 eG99 (by decide)
            have h111 := h111.keep h114 eG99 (by decide)
            have h118 := h118.keep h114 eG99 (by decide)
            have h119 := h119.keep h114 eG99 (by decide)
            have h120 := h120.keep h114 eG99 (by decide)
            have h121 := h121.keep h114 eG99 (by decide)
            have h122 := h122.keep h114 eG99 (by decide)
            have h123 := h123.keep h114 eG99 (by decide)
            have h124 := h124.keep h114 eG99 (by decide)
            have h117 := h117.keep h114 eG99 (by decide)
            have h125 := h125.keep h114 eG99 (by decide)
            have h133 := h133.keep h114 eG99 (by decide)
            have h128 := h128.keep h114 eG99 (by decide)
            have h129 := h129.keep h114 eG99 (by decide)
            have h130 := h130.keep h114 eG99 (by decide)
            have h131 := h131.keep h114 eG99 (by decide)
            have h132 := h132.keep h114 eG99 (by decide)
            have h112 := h112.keep h114 eG99 (by decide)
            have h115 := h115.keep h114 eG99 (by decide)
            have h116 := h116.keep h114 eG99 (by decide)
            have h113 := h113.keep h114 eG99 (by decide)
            have h126 := h126.keep h114 eG99 (by decide)
            have h127 := h127.keep h114 eG99 (by decide)
            have hst := (fx.rf (o := o) (S := [314]) (G := G98)).wr h114 eG99 (List.mem_singleton.mpr rfl)
            have ptrI_0 := trI.fr hst ptrI_0 (by decide) (by decide) (by decide) (by decide) (by decide) (by decide) (by decide) (by decide) (by decide) (by decide) (by decide) (by decide) (by decide) (by decide) (by decide) (by decide) (by decide) (by decide)
            have hlen := (z_len eG99).trans hlen
            have hsl := (z_sl h114 eG99 rfl).trans hsl
            have hfr := hfr.wr h114 eG99 (by decide)
            have h114 := h114.kept eG99
            change ab_W _ _ _ (List.set G98 114 (za 6 (zu GR sc nu224))) 98 [some (vR 80), some (vz sc), some (vz wi), some (vz v14), none, none] [] _
            rw [← eG99]
            obtain ⟨K, O, Fi, Be, Le, Mo, Z, LZ, SM, SA, QF, QL, AF, AL, SD, OA, OF, ON, h94, h95, h96, h97, h98, h99, h100, h101, h90, h89, h105, h106, h107, h108, h109, h102, h103, h104, jk, jo, jfi, jbe, jle, jmo, jz, jlz, jsm, jsa, jqf, jql, jaf, jal, jsd, joa, jof, jon, jt, cnd, cre, crs, crz, ck5, ck6, ck7, jss, jsv⟩ := ptrI_0
            have hcz_ := crz rfl
            have hin_ := (rtr_in jt.j.r).1 (by omega)
            have hzv_ := rtr_z jt.j.r (i := v14) (by omega)
            have hdc_ := (jt.j.dq (by omega)).1
            unfold ceq at hdc_
            have hzq_ : Z v14 = z938 := by omega
            refine ab_aload_n d_MO_compile_98 rfl ?_
            refine ab_getf (fs := mof 0 0 m_length m_out w218 g219 s220 r221 n222 a215 fl223 f228 p229 nu224 d225 v216 nt217 le226 mo227 sc m_work m_got m_rowMany m_charAt m_charWide m_trail m_isMatch m_matchGroups m_allFrom m_allBefore m_founds m_pieces m_writtenMany m_templateWide m_tooMuch) f_MO_118 d_MO_compile_99 h80.2.2 rfl ?_
            refine ab_iload_n d_MO_compile_102 rfl ?_
            refine ab_aload_n d_MO_compile_103 rfl ?_
            refine ab_getf (fs := mof 0 0 m_length m_out w218 g219 s220 r221 n222 a215 fl223 f228 p229 nu224 d225 v216 nt217 le226 mo227 sc m_work m_got m_rowMany m_charAt m_charWide m_trail m_isMatch m_matchGroups m_allFrom m_allBefore m_founds m_pieces m_writtenMany m_templateWide m_tooMuch) f_MO_68 d_MO_compile_104 h80.2.2 rfl ?_
            refine ab_iload_n d_MO_compile_107 rfl ?_
            refine zz_lald d_MO_compile_108 h100 (by omega) ?_
            have hq100 := jz v14 (by omega) (by omega)
            refine zz_l2i d_MO_compile_109 ?_
            refine zz_iast d_MO_compile_110 h115 (by omega) (h115.2.1 (by decide)) ?_
            obtain ⟨G101, eG101⟩ : ∃ z : ab_G, z = List.set G99 115 (za 6 (zu SZ sc (Z v14))) := ⟨_, rfl⟩
            have h80 := h80.keep h115 eG101 (by decide)
            have h84 := h84.keep h115 eG101 (by decide)
            have h87 := h87.keep h115 eG101 (by decide)
            have h88 := h88.keep h115 eG101 (by decide)
            have h93 := h93.keep h115 eG101 (by decide)
            have h81 := h81.keep h115 eG101 (by decide)
            have h82 := h82.keep h115 eG101 (by decide)
            have h91 := h91.keep h115 eG101 (by decide)
            have h92 := h92.keep h115 eG101 (by decide)
            have h110 := h110.keep h115 eG101 (by decide)
            have h111 := h111.keep h115 eG101 (by decide)
            have h118 := h118.keep h115 eG101 (by decide)
            have h119 := h119.keep h115 eG101 (by decide)
            have h120 := h120.keep h115 eG101 (by decide)
            have h121 := h121.keep h115 eG101 (by decide)
            have h122 := h122.keep h115 eG101 (by decide)
            have h123 := h123.keep h115 eG101 (by decide)
            have h124 := h124.keep h115 eG101 (by decide)
            have h117 := h117.keep h115 eG101 (by decide)
            have h125 := h125.keep h115 eG101 (by decide)
            have h133 := h133.keep h115 eG101 (by decide)
            have h128 := h128.keep h115 eG101 (by decide)
            have h129 := h129.keep h115 eG101 (by decide)
            have h130 := h130.keep h115 eG101 (by decide)
            have h131 := h131.keep h115 eG101 (by decide)
            have h132 := h132.keep h115 eG101 (by decide)
            have h112 := h112.keep h115 eG101 (by decide)
            have h114 := h114.keep h115 eG101 (by decide)
            have h116 := h116.keep h115 eG101 (by decide)
            have h113 := h113.keep h115 eG101 (by decide)
            have h126 := h126.keep h115 eG101 (by decide)
            have h127 := h127.keep h115 eG101 (by decide)
            have h94 := h94.keep h115 eG101 (by decide)
            have h95 := h95.keep h115 eG101 (by decide)
            have h96 := h96.keep h115 eG101 (by decide)
            have h97 := h97.keep h115 eG101 (by decide)
            have h98 := h98.keep h115 eG101 (by decide)
            have h99 := h99.keep h115 eG101 (by decide)
            have h100 := h100.keep h115 eG101 (by decide)
            have h101 := h101.keep h115 eG101 (by decide)
            have h90 := h90.keep h115 eG101 (by decide)
            have h89 := h89.keep h115 eG101 (by decide)
            have h105 := h105.keep h115 eG101 (by decide)
            have h106 := h106.keep h115 eG101 (by decide)
            have h107 := h107.keep h115 eG101 (by decide)
            have h108 := h108.keep h115 eG101 (by decide)
            have h109 := h109.keep h115 eG101 (by decide)
            have h102 := h102.keep h115 eG101 (by decide)
            have h103 := h103.keep h115 eG101 (by decide)
            have h104 := h104.keep h115 eG101 (by decide)
            have hlen := (z_len eG101).trans hlen
            have hsl := (z_sl h115 eG101 rfl).trans hsl
            have hfr := hfr.wr h115 eG101 (by decide)
            have h115 := h115.kept eG101
            change ab_W _ _ _ (List.set G99 115 (za 6 (zu SZ sc (Z v14)))) 111 [some (vR 80), some (vz sc), some (vz wi), some (vz v14), none, none] [] _
            rw [← eG101]
            refine ab_aload_n d_MO_compile_111 rfl ?_
            refine ab_getf (fs := mof 0 0 m_length m_out w218 g219 s220 r221 n222 a215 fl223 f228 p229 nu224 d225 v216 nt217 le226 mo227 sc m_work m_got m_rowMany m_charAt m_charWide m_trail m_isMatch m_matchGroups m_allFrom m_allBefore m_founds m_pieces m_writtenMany m_templateWide m_tooMuch) f_MO_121 d_MO_compile_112 h80.2.2 rfl ?_
            refine ab_iload_n d_MO_compile_115 rfl ?_
            refine ab_iload_n d_MO_compile_116 rfl ?_
            refine zz_iast d_MO_compile_117 h116 (by omega) (h116.2.1 (by decide)) ?_
            obtain ⟨G102, eG102⟩ : ∃ z : ab_G, z = List.set G101 116 (za 6 (zu FL sc wi)) := ⟨_, rfl⟩
            have h80 := h80.keep h116 eG102 (by decide)
            have h84 := h84.keep h116 eG102 (by decide)
            have h87 := h87.keep h116 eG102 (by decide)
            have h88 := h88.keep h116 eG102 (by decide)
            have h93 := h93.keep h116 eG102 (by decide)
            have h81 := h81.keep h116 eG102 (by decide)
            have h82 := h82.keep h116 eG102 (by decide)
            have h91 := h91.keep h116 eG102 (by decide)
            have h92 := h92.keep h116 eG102 (by decide)
            have h110 := h110.keep h116 eG102 (by decide)
            have h111 := h111.keep h116 eG102 (by decide)
            have h118 := h118.keep h116 eG102 (by decide)
            have h119 := h119.keep h116 eG102 (by decide)
            have h120 := h120.keep h116 eG102 (by decide)
            have h121 := h121.keep h116 eG102 (by decide)
            have h122 := h122.keep h116 eG102 (by decide)
            have h123 := h123.keep h116 eG102 (by decide)
            have h124 := h124.keep h116 eG102 (by decide)
            have h117 := h117.keep h116 eG102 (by decide)
            have h125 := h125.keep h116 eG102 (by decide)
            have h133 := h133.keep h116 eG102 (by decide)
            have h128 := h128.keep h116 eG102 (by decide)
            have h129 := h129.keep h116 eG102 (by decide)
            have h130 := h130.keep h116 eG102 (by decide)
            have h131 := h131.keep h116 eG102 (by decide)
            have h132 := h132.keep h116 eG102 (by decide)
            have h112 := h112.keep h116 eG102 (by decide)
            have h114 := h114.keep h116 eG102 (by decide)
            have h115 := h115.keep h116 eG102 (by decide)
            have h113 := h113.keep h116 eG102 (by decide)
            have h126 := h126.keep h116 eG102 (by decide)
            have h127 := h127.keep h116 eG102 (by decide)
            have h94 := h94.keep h116 eG102 (by decide)
            have h95 := h95.keep h116 eG102 (by decide)
            have h96 := h96.keep h116 eG102 (by decide)
            have h97 := h97.keep h116 eG102 (by decide)
            have h98 := h98.keep h116 eG102 (by decide)
            have h99 := h99.keep h116 eG102 (by decide)
            have h100 := h100.keep h116 eG102 (by decide)
            have h101 := h101.keep h116 eG102 (by decide)
            have h90 := h90.keep h116 eG102 (by decide)
            have h89 := h89.keep h116 eG102 (by decide)
            have h105 := h105.keep h116 eG102 (by decide)
            have h106 := h106.keep h116 eG102 (by decide)
            have h107 := h107.keep h116 eG102 (by decide)
            have h108 := h108.keep h116 eG102 (by decide)
            have h109 := h109.keep h116 eG102 (by decide)
            have h102 := h102.keep h116 eG102 (by decide)
            have h103 := h103.keep h116 eG102 (by decide)
            have h104 := h104.keep h116 eG102 (by decide)
            have hlen := (z_len eG102).trans hlen
            have hsl := (z_sl h116 eG102 rfl).trans hsl
            have hfr := hfr.wr h116 eG102 (by decide)
            have h116 := h116.kept eG102
            change ab_W _ _ _ (List.set G101 116 (za 6 (zu FL sc wi))) 118 [some (vR 80), some (vz sc), some (vz wi), some (vz v14), none, none] [] _
            rw [← eG102]
            refine ab_aload_n d_MO_compile_118 rfl ?_
            refine ab_getf (fs := mof 0 0 m_length m_out w218 g219 s220 r221 n222 a215 fl223 f228 p229 nu224 d225 v216 nt217 le226 mo227 sc m_work m_got m_rowMany m_charAt m_charWide m_trail m_isMatch m_matchGroups m_allFrom m_allBefore m_founds m_pieces m_writtenMany m_templateWide m_tooMuch) f_MO_124 d_MO_compile_119 h80.2.2 rfl ?_
            refine ab_iload_n d_MO_compile_122 rfl ?_
            refine zz_iconst d_MO_compile_123 ?_
            refine zz_iast d_MO_compile_124 h117 (by omega) (h117.2.1 (by decide)) ?_
            obtain ⟨G103, eG103⟩ : ∃ z : ab_G, z = List.set G102 117 (za 6 (zu SN sc 0)) := ⟨_, rfl⟩
            have h80 := h80.keep h117 eG103 (by decide)
            have h84 := h84.keep h117 eG103 (by decide)
            have h87 := h87.keep h117 eG103 (by decide)
            have h88 := h88.keep h117 eG103 (by decide)
            have h93 := h93.keep h117 eG103 (by decide)
            have h81 := h81.keep h117 eG103 (by decide)
            have h82 := h82.keep h117 eG103 (by decide)
            have h91 := h91.keep h117 eG103 (by decide)
            have h92 := h92.keep h117 eG103 (by decide)
            have h110 := h110.keep h117 eG103 (by decide)
            have h111 := h111.keep h117 eG103 (by decide)
            have h118 := h118.keep h117 eG103 (by decide)
            have h119 := h119.keep h117 eG103 (by decide)
            have h120 := h120.keep h117 eG103 (by decide)
            have h121 := h121.keep h117 eG103 (by decide)
            have h122 := h122.keep h117 eG103 (by decide)
            have h123 := h123.keep h117 eG103 (by decide)
            have h124 := h124.keep h117 eG103 (by decide)
            have h125 := h125.keep h117 eG103 (by decide)
            have h133 := h133.keep h117 eG103 (by decide)
            have h128 := h128.keep h117 eG103 (by decide)
            have h129 := h129.keep h117 eG103 (by decide)
            have h130 := h130.keep h117 eG103 (by decide)
            have h131 := h131.keep h117 eG103 (by decide)
            have h132 := h132.keep h117 eG103 (by decide)
            have h112 := h112.keep h117 eG103 (by decide)
            have h114 := h114.keep h117 eG103 (by decide)
            have h115 := h115.keep h117 eG103 (by decide)
            have h116 := h116.keep h117 eG103 (by decide)
            have h113 := h113.keep h117 eG103 (by decide)
            have h126 := h126.keep h117 eG103 (by decide)
            have h127 := h127.keep h117 eG103 (by decide)
            have h94 := h94.keep h117 eG103 (by decide)
            have h95 := h95.keep h117 eG103 (by decide)
            have h96 := h96.keep h117 eG103 (by decide)
            have h97 := h97.keep h117 eG103 (by decide)
            have h98 := h98.keep h117 eG103 (by decide)
            have h99 := h99.keep h117 eG103 (by decide)
            have h100 := h100.keep h117 eG103 (by decide)
            have h101 := h101.keep h117 eG103 (by decide)
            have h90 := h90.keep h117 eG103 (by decide)
            have h89 := h89.keep h117 eG103 (by decide)
            have h105 := h105.keep h117 eG103 (by decide)
            have h106 := h106.keep h117 eG103 (by decide)
            have h107 := h107.keep h117 eG103 (by decide)
            have h108 := h108.keep h117 eG103 (by decide)
            have h109 := h109.keep h117 eG103 (by decide)
            have h102 := h102.keep h117 eG103 (by decide)
            have h103 := h103.keep h117 eG103 (by decide)
            have h104 := h104.keep h117 eG103 (by decide)
            have hlen := (z_len eG103).trans hlen
            have hsl := (z_sl h117 eG103 rfl).trans hsl
            have hfr := hfr.wr h117 eG103 (by decide)
            have h117 := h117.kept eG103
            change ab_W _ _ _ (List.set G102 117 (za 6 (zu SN sc 0))) 125 [some (vR 80), some (vz sc), some (vz wi), some (vz v14), none, none] [] _
            rw [← eG103]
            refine ab_aload_n d_MO_compile_125 rfl ?_
            refine ab_getf (fs := mof 0 0 m_length m_out w218 g219 s220 r221 n222 a215 fl223 f228 p229 nu224 d225 v216 nt217 le226 mo227 sc m_work m_got m_rowMany m_charAt m_charWide m_trail m_isMatch m_matchGroups m_allFrom m_allBefore m_founds m_pieces m_writtenMany m_templateWide m_tooMuch) f_MO_149 d_MO_compile_126 h80.2.2 rfl ?_
            refine ab_iload_n d_MO_compile_129 rfl ?_
            refine zz_iconst d_MO_compile_130 ?_
            refine zz_iast d_MO_compile_131 h125 (by omega) (h125.2.1 (by decide)) ?_
            obtain ⟨G104, eG104⟩ : ∃ z : ab_G, z = List.set G103 125 (za 6 (zu CC sc 0)) := ⟨_, rfl⟩
            have h80 := h80.keep h125 eG104 (by decide)
            have h84 := h84.keep h125 eG104 (by decide)
            have h87 := h87.keep h125 eG104 (by decide)
            have h88 := h88.keep h125 eG104 (by decide)
            have h93 := h93.keep h125 eG104 (by decide)
            have h81 := h81.keep h125 eG104 (by decide)
            have h82 := h82.keep h125 eG104 (by decide)
            have h91 := h91.keep h125 eG104 (by decide)
            have h92 := h92.keep h125 eG104 (by decide)
            have h110 := h110.keep h125 eG104 (by decide)
            have h111 := h111.keep h125 eG104 (by decide)
            have h118 := h118.keep h125 eG104 (by decide)
            have h119 := h119.keep h125 eG104 (by decide)
            have h120 := h120.keep h125 eG104 (by decide)
            have h121 := h121.keep h125 eG104 (by decide)
            have h122 := h122.keep h125 eG104 (by decide)
            have h123 := h123.keep h125 eG104 (by decide)
            have h124 := h124.keep h125 eG104 (by decide)
            have h117 := h117.keep h125 eG104 (by decide)
            have h133 := h133.keep h125 eG104 (by decide)
            have h128 := h128.keep h125 eG104 (by decide)
            have h129 := h129.keep h125 eG104 (by decide)
            have h130 := h130.keep h125 eG104 (by decide)
            have h131 := h131.keep h125 eG104 (by decide)
            have h132 := h132.keep h125 eG104 (by decide)
            have h112 := h112.keep h125 eG104 (by decide)
            have h114 := h114.keep h125 eG104 (by decide)
            have h115 := h115.keep h125 eG104 (by decide)
            have h116 := h116.keep h125 eG104 (by decide)
            have h113 := h113.keep h125 eG104 (by decide)
            have h126 := h126.keep h125 eG104 (by decide)
            have h127 := h127.keep h125 eG104 (by decide)
            have h94 := h94.keep h125 eG104 (by decide)
            have h95 := h95.keep h125 eG104 (by decide)
            have h96 := h96.keep h125 eG104 (by decide)
            have h97 := h97.keep h125 eG104 (by decide)
            have h98 := h98.keep h125 eG104 (by decide)
            have h99 := h99.keep h125 eG104 (by decide)
            have h100 := h100.keep h125 eG104 (by decide)
            have h101 := h101.keep h125 eG104 (by decide)
            have h90 := h90.keep h125 eG104 (by decide)
            have h89 := h89.keep h125 eG104 (by decide)
            have h105 := h105.keep h125 eG104 (by decide)
            have h106 := h106.keep h125 eG104 (by decide)
            have h107 := h107.keep h125 eG104 (by decide)
            have h108 := h108.keep h125 eG104 (by decide)
            have h109 := h109.keep h125 eG104 (by decide)
            have h102 := h102.keep h125 eG104 (by decide)
            have h103 := h103.keep h125 eG104 (by decide)
            have h104 := h104.keep h125 eG104 (by decide)
            have hlen := (z_len eG104).trans hlen
            have hsl := (z_sl h125 eG104 rfl).trans hsl
            have hfr := hfr.wr h125 eG104 (by decide)
            have h125 := h125.kept eG104
            change ab_W _ _ _ (List.set G103 125 (za 6 (zu CC sc 0))) 132 [some (vR 80), some (vz sc), some (vz wi), some (vz v14), none, none] [] _
            rw [← eG104]
            refine zz_iconst d_MO_compile_132 ?_
            refine ab_istore d_MO_compile_133 (Nat.le_of_ble_eq_true rfl) (Nat.le_of_ble_eq_true rfl) rfl ?_
            change ab_W _ _ _ G104 135 [some (vR 80), some (vz sc), some (vz wi), some (vz v14), some (vz 0), none] [] _
            refine y_MO_compile_135 (m_thrown := 0) (m_taped := 0) (m_length := m_length) (m_out := m_out) (m_wide := w218) (m_gathered := g219) (m_sets := s220) (m_ranges := r221) (m_nodes := n222) (m_at := a215) (m_flags := fl223) (m_fault := f228) (m_place := p229) (m_numbered := nu224) (m_depth := d225) (m_value := v216) (m_isNot := nt217) (m_least0 := le226) (m_most0 := mo227) (m_slot := sc) (m_work := m_work) (m_got := m_got) (m_rowMany := m_rowMany) (m_charAt := m_charAt) (m_charWide := m_charWide) (m_trail := m_trail) (m_isMatch := m_isMatch) (m_matchGroups := m_matchGroups) (m_allFrom := m_allFrom) (m_allBefore := m_allBefore) (m_founds := m_founds) (m_pieces := m_pieces) (m_writtenMany := m_writtenMany) (m_templateWide := m_templateWide) (m_tooMuch := m_tooMuch) (NS := NS235) (NM := NM236) (sc := sc) (wi := wi) (tp := v14) (NO0 := NO_) (NZ0 := NZ) (G0 := G104) (g := 0) (NO_ := NO_) (NZ := NZ) (by omega) (by omega) hq46 hq47 (by omega) (by omega) (Int.toNat (10 - 0) + 1) h80 h110 h111 h126 h127 (by omega) xno_ xnz (cpS_0 (by omega)) nzI_0 fx.rf rfl rfl (by omega) (fun G105 NO_2106 NZ2107 hN126 hN127 hq108 hq109 hq110 hq111 hfk hlk hsk => ?_)
            · have h80 := hfk.get h80 (by decide)
              have h84 := hfk.get h84 (by decide)
              have h87 := hfk.get h87 (by decide)
              have h88 := hfk.get h88 (by decide)
              have h93 := hfk.get h93 (by decide)
              have h81 := hfk.get h81 (by decide)
              have h82 := hfk.get h82 (by decide)
              have h91 := hfk.get h91 (by decide)
              have h92 := hfk.get h92 (by decide)
              have h110 := hfk.get h110 (by decide)
              have h111 := hfk.get h111 (by decide)
              have h118 := hfk.get h118 (by decide)
              have h119 := hfk.get h119 (by decide)
              have h120 := hfk.get h120 (by decide)
              have h121 := hfk.get h121 (by decide)
              have h122 := hfk.get h122 (by decide)
              have h123 := hfk.get h123 (by decide)
              have h124 := hfk.get h124 (by decide)
              have h117 := hfk.get h117 (by decide)
              have h125 := hfk.get h125 (by decide)
              have h133 := hfk.get h133 (by decide)
              have h128 := hfk.get h128 (by decide)
              have h129 := hfk.get h129 (by decide)
              have h130 := hfk.get h130 (by decide)
              have h131 := hfk.get h131 (by decide)
              have h132 := hfk.get h132 (by decide)
              have h112 := hfk.get h112 (by decide)
              have h114 := hfk.get h114 (by decide)
              have h115 := hfk.get h115 (by decide)
              have h116 := hfk.get h116 (by decide)
              have h113 := hfk.get h113 (by decide)
              have h94 := hfk.get h94 (by decide)
              have h95 := hfk.get h95 (by decide)
              have h96 := hfk.get h96 (by decide)
              have h97 := hfk.get h97 (by decide)
              have h98 := hfk.get h98 (by decide)
              have h99 := hfk.get h99 (by decide)
              have h100 := hfk.get h100 (by decide)
              have h101 := hfk.get h101 (by decide)
              have h90 := hfk.get h90 (by decide)
              have h89 := hfk.get h89 (by decide)
              have h105 := hfk.get h105 (by decide)
              have h106 := hfk.get h106 (by decide)
              have h107 := hfk.get h107 (by decide)
              have h108 := hfk.get h108 (by decide)
              have h109 := hfk.get h109 (by decide)
              have h102 := hfk.get h102 (by decide)
              have h103 := hfk.get h103 (by decide)
              have h104 := hfk.get h104 (by decide)
              have hfr := hfr.tr hfk (by decide)
              have hlen := hlk.trans hlen
              have hsl := hsk.trans hsl
              have h126 := hN126
              have h127 := hN127
              change ab_W _ _ _ G105 232 [some (vR 80), some (vz sc), some (vz wi), some (vz v14), none, none] [] _
              have z0_ : zu SN sc 0 sc = 0 := zu_self _ _ _
              have zc_ : zu CC sc 0 sc = 0 := zu_self _ _ _
              refine ab_aload_n d_MO_compile_232 rfl ?_
              refine zz_iconst d_MO_compile_233 ?_
              refine ab_putf (fs := mof 0 0 m_length m_out w218 g219 s220 r221 n222 a215 fl223 f228 p229 nu224 d225 v216 nt217 le226 mo227 sc m_work m_got m_rowMany m_charAt m_charWide m_trail m_isMatch m_matchGroups m_allFrom m_allBefore m_founds m_pieces m_writtenMany m_templateWide m_tooMuch) f_MO_445 (Or.inl rfl) d_MO_compile_234 h80.2.2 (Nat.le_of_ble_eq_true rfl) (fun _ => ⟨rfl, rfl⟩) (h80.2.1 (by decide)) ?_
              obtain ⟨G112, eG112⟩ : ∃ z : ab_G, z = List.set G105 80 (ab_ob 12 (mof 0 0 m_length m_out w218 g219 s220 r221 n222 a215 fl223 f228 p229 nu224 d225 v216 nt217 le226 mo227 sc 0 m_got m_rowMany m_charAt m_charWide m_trail m_isMatch m_matchGroups m_allFrom m_allBefore m_founds m_pieces m_writtenMany m_templateWide m_tooMuch)) := ⟨_, rfl⟩
              have h84 := h84.keep h80 eG112 (by decide)
              have h87 := h87.keep h80 eG112 (by decide)
              have h88 := h88.keep h80 eG112 (by decide)
              have h93 := h93.keep h80 eG112 (by decide)
              have h81 := h81.keep h80 eG112 (by decide)
              have h82 := h82.keep h80 eG112 (by decide)
              have h91 := h91.keep h80 eG112 (by decide)
              have h92 := h92.keep h80 eG112 (by decide)
              have h110 := h110.keep h80 eG112 (by decide)
              have h111 := h111.keep h80 eG112 (by decide)
              have h118 := h118.keep h80 eG112 (by decide)
              have h119 := h119.keep h80 eG112 (by decide)
              have h120 := h120.keep h80 eG112 (by decide)
              have h121 := h121.keep h80 eG112 (by decide)
              have h122 := h122.keep h80 eG112 (by decide)
              have h123 := h123.keep h80 eG112 (by decide)
              have h124 := h124.keep h80 eG112 (by decide)
              have h117 := h117.keep h80 eG112 (by decide)
              have h125 := h125.keep h80 eG112 (by decide)
              have h133 := h133.keep h80 eG112 (by decide)
              have h128 := h128.keep h80 eG112 (by decide)
              have h129 := h129.keep h80 eG112 (by decide)
              have h130 := h130.keep h80 eG112 (by decide)
              have h131 := h131.keep h80 eG112 (by decide)
              have h132 := h132.keep h80 eG112 (by decide)
              have h112 := h112.keep h80 eG112 (by decide)
              have h114 := h114.keep h80 eG112 (by decide)
              have h115 := h115.keep h80 eG112 (by decide)
              have h116 := h116.keep h80 eG112 (by decide)
              have h113 := h113.keep h80 eG112 (by decide)
              have h126 := h126.keep h80 eG112 (by decide)
              have h127 := h127.keep h80 eG112 (by decide)
              have h94 := h94.keep h80 eG112 (by decide)
              have h95 := h95.keep h80 eG112 (by decide)
              have h96 := h96.keep h80 eG112 (by decide)
              have h97 := h97.keep h80 eG112 (by decide)
              have h98 := h98.keep h80 eG112 (by decide)
              have h99 := h99.keep h80 eG112 (by decide)
              have h100 := h100.keep h80 eG112 (by decide)
              have h101 := h101.keep h80 eG112 (by decide)
              have h90 := h90.keep h80 eG112 (by decide)
              have h89 := h89.keep h80 eG112 (by decide)
              have h105 := h105.keep h80 eG112 (by decide)
              have h106 := h106.keep h80 eG112 (by decide)
              have h107 := h107.keep h80 eG112 (by decide)
              have h108 := h108.keep h80 eG112 (by decide)
              have h109 := h109.keep h80 eG112 (by decide)
              have h102 := h102.keep h80 eG112 (by decide)
              have h103 := h103.keep h80 eG112 (by decide)
              have h104 := h104.keep h80 eG112 (by decide)
              have hlen := (z_len eG112).trans hlen
              have hsl := (z_sl h80 eG112 rfl).trans hsl
              have hfr := hfr.wr h80 eG112 (by decide)
              have h80 := h80.kept eG112
              change ab_W _ _ _ (List.set G105 80 (ab_ob 12 (mof 0 0 m_length m_out w218 g219 s220 r221 n222 a215 fl223 f228 p229 nu224 d225 v216 nt217 le226 mo227 sc 0 m_got m_rowMany m_charAt m_charWide m_trail m_isMatch m_matchGroups m_allFrom m_allBefore m_founds m_pieces m_writtenMany m_templateWide m_tooMuch))) 237 [some (vR 80), some (vz sc), some (vz wi), some (vz v14), none, none] [] _
              rw [← eG112]
              refine ab_aload_n d_MO_compile_237 rfl ?_
              refine zz_iconst d_MO_compile_238 ?_
              refine ab_putf (fs := mof 0 0 m_length m_out w218 g219 s220 r221 n222 a215 fl223 f228 p229 nu224 d225 v216 nt217 le226 mo227 sc 0 m_got m_rowMany m_charAt m_charWide m_trail m_isMatch m_matchGroups m_allFrom m_allBefore m_founds m_pieces m_writtenMany m_templateWide m_tooMuch) f_MO_451 (Or.inl rfl) d_MO_compile_239 h80.2.2 (Nat.le_of_ble_eq_true rfl) (fun _ => ⟨rfl, rfl⟩) (h80.2.1 (by decide)) ?_
              obtain ⟨G113, eG113⟩ : ∃ z : ab_G, z = List.set G112 80 (ab_ob 12 (mof 0 0 m_length m_out w218 g219 s220 r221 n222 a215 fl223 f228 p229 nu224 d225 v216 nt217 le226 mo227 sc 0 m_got 0 m_charAt m_charWide m_trail m_isMatch m_matchGroups m_allFrom m_allBefore m_founds m_pieces m_writtenMany m_templateWide m_tooMuch)) := ⟨_, rfl⟩
              have h84 := h84.keep h80 eG113 (by decide)
              have h87 := h87.keep h80 eG113 (by decide)
              have h88 := h88.keep h80 eG113 (by decide)
              have h93 := h93.keep h80 eG113 (by decide)
              have h81 := h81.keep h80 eG113 (by decide)
              have h82 := h82.keep h80 eG113 (by decide)
              have h91 := h91.keep h80 eG113 (by decide)
              have h92 := h92.keep h80 eG113 (by decide)
              have h110 := h110.keep h80 eG113 (by decide)
              have h111 := h111.keep h80 eG113 (by decide)
              have h118 := h118.keep h80 eG113 (by decide)
              have h119 := h119.keep h80 eG113 (by decide)
              have h120 := h120.keep h80 eG113 (by decide)
              have h121 := h121.keep h80 eG113 (by decide)
              have h122 := h122.keep h80 eG113 (by decide)
              have h123 := h123.keep h80 eG113 (by decide)
              have h124 := h124.keep h80 eG113 (by decide)
              have h117 := h117.keep h80 eG113 (by decide)
              have h125 := h125.keep h80 eG113 (by decide)
              have h133 := h133.keep h80 eG113 (by decide)
              have h128 := h128.keep h80 eG113 (by decide)
              have h129 := h129.keep h80 eG113 (by decide)
              have h130 := h130.keep h80 eG113 (by decide)
              have h131 := h131.keep h80 eG113 (by decide)
              have h132 := h132.keep h80 eG113 (by decide)
              have h112 := h112.keep h80 eG113 (by decide)
              have h114 := h114.keep h80 eG113 (by decide)
              have h115 := h115.keep h80 eG113 (by decide)
              have h116 := h116.keep h80 eG113 (by decide)
              have h113 := h113.keep h80 eG113 (by decide)
              have h126 := h126.keep h80 eG113 (by decide)
              have h127 := h127.keep h80 eG113 (by decide)
              have h94 := h94.keep h80 eG113 (by decide)
              have h95 := h95.keep h80 eG113 (by decide)
              have h96 := h96.keep h80 eG113 (by decide)
              have h97 := h97.keep h80 eG113 (by decide)
              have h98 := h98.keep h80 eG113 (by decide)
              have h99 := h99.keep h80 eG113 (by decide)
              have h100 := h100.keep h80 eG113 (by decide)
              have h101 := h101.keep h80 eG113 (by decide)
              have h90 := h90.keep h80 eG113 (by decide)
              have h89 := h89.keep h80 eG113 (by decide)
              have h105 := h105.keep h80 eG113 (by decide)
              have h106 := h106.keep h80 eG113 (by decide)
              have h107 := h107.keep h80 eG113 (by decide)
              have h108 := h108.keep h80 eG113 (by decide)
              have h109 := h109.keep h80 eG113 (by decide)
              have h102 := h102.keep h80 eG113 (by decide)
              have h103 := h103.keep h80 eG113 (by decide)
              have h104 := h104.keep h80 eG113 (by decide)
              have hlen := (z_len eG113).trans hlen
              have hsl := (z_sl h80 eG113 rfl).trans hsl
              have hfr := hfr.wr h80 eG113 (by decide)
              have h80 := h80.kept eG113
              change ab_W _ _ _ (List.set G112 80 (ab_ob 12 (mof 0 0 m_length m_out w218 g219 s220 r221 n222 a215 fl223 f228 p229 nu224 d225 v216 nt217 le226 mo227 sc 0 m_got 0 m_charAt m_charWide m_trail m_isMatch m_matchGroups m_allFrom m_allBefore m_founds m_pieces m_writtenMany m_templateWide m_tooMuch))) 242 [some (vR 80), some (vz sc), some (vz wi), some (vz v14), none, none] [] _
              rw [← eG113]
              refine ab_aload_n d_MO_compile_242 rfl ?_
              refine ab_callV (d' := d - 1) (as := []) (st := []) (r := _) (z_MO_row (o := o) (m_thrown := 0) (m_taped := 0) (m_length := m_length) (m_out := m_out) (m_wide := w218) (m_gathered := g219) (m_sets := s220) (m_ranges := r221) (m_nodes := n222) (m_at := a215) (m_flags := fl223) (m_fault := f228) (m_place := p229) (m_numbered := nu224) (m_depth := d225) (m_value := v216) (m_isNot := nt217) (m_least0 := le226) (m_most0 := mo227) (m_slot := sc) (m_work := 0) (m_got := m_got) (m_rowMany := 0) (m_charAt := m_charAt) (m_charWide := m_charWide) (m_trail := m_trail) (m_isMatch := m_isMatch) (m_matchGroups := m_matchGroups) (m_allFrom := m_allFrom) (m_allBefore := m_allBefore) (m_founds := m_founds) (m_pieces := m_pieces) (m_writtenMany := m_writtenMany) (m_templateWide := m_templateWide) (m_tooMuch := m_tooMuch) h80 (by omega) (by omega)) (fun oc G2 h => by rcases h with ⟨h, _⟩ <;> exact ⟨_, h⟩) (by omega) m_MO_row ml_MO_454 im_MO_row se_MO_row c_MO h80.2.2 (Nat.le_of_ble_eq_true rfl) d_MO_compile_243 rfl ?_
              intro v G114 hq
              rcases hq with ⟨hv, hfk, hlk, hsk, hN80⟩
              cases hv
              have h84 := hfk.get h84 (by decide)
              have h87 := hfk.get h87 (by decide)
              have h88 := hfk.get h88 (by decide)
              have h93 := hfk.get h93 (by decide)
              have h81 := hfk.get h81 (by decide)
              have h82 := hfk.get h82 (by decide)
              have h91 := hfk.get h91 (by decide)
              have h92 := hfk.get h92 (by decide)
              have h110 := hfk.get h110 (by decide)
              have h111 := hfk.get h111 (by decide)
              have h118 := hfk.get h118 (by decide)
              have h119 := hfk.get h119 (by decide)
              have h120 := hfk.get h120 (by decide)
              have h121 := hfk.get h121 (by decide)
              have h122 := hfk.get h122 (by decide)
              have h123 := hfk.get h123 (by decide)
              have h124 := hfk.get h124 (by decide)
              have h117 := hfk.get h117 (by decide)
              have h125 := hfk.get h125 (by decide)
              have h133 := hfk.get h133 (by decide)
              have h128 := hfk.get h128 (by decide)
              have h129 := hfk.get h129 (by decide)
              have h130 := hfk.get h130 (by decide)
              have h131 := hfk.get h131 (by decide)
              have h132 := hfk.get h132 (by decide)
              have h112 := hfk.get h112 (by decide)
              have h114 := hfk.get h114 (by decide)
              have h115 := hfk.get h115 (by decide)
              have h116 := hfk.get h116 (by decide)
              have h113 := hfk.get h113 (by decide)
              have h126 := hfk.get h126 (by decide)
              have h127 := hfk.get h127 (by decide)
              have h94 := hfk.get h94 (by decide)
              have h95 := hfk.get h95 (by decide)
              have h96 := hfk.get h96 (by decide)
              have h97 := hfk.get h97 (by decide)
              have h98 := hfk.get h98 (by decide)
              have h99 := hfk.get h99 (by decide)
              have h100 := hfk.get h100 (by decide)
              have h101 := hfk.get h101 (by decide)
              have h90 := hfk.get h90 (by decide)
              have h89 := hfk.get h89 (by decide)
              have h105 := hfk.get h105 (by decide)
              have h106 := hfk.get h106 (by decide)
              have h107 := hfk.get h107 (by decide)
              have h108 := hfk.get h108 (by decide)
              have h109 := hfk.get h109 (by decide)
              have h102 := hfk.get h102 (by decide)
              have h103 := hfk.get h103 (by decide)
              have h104 := hfk.get h104 (by decide)
              have hfr := hfr.tr hfk (by decide)
              have hlen := hlk.trans hlen
              have hsl := hsk.trans hsl
              have h80 := hN80
              change ab_W _ _ _ G114 246 [some (vR 80), some (vz sc), some (vz wi), some (vz v14), none, none] [vz (32 * 0)] _
              refine ab_istore d_MO_compile_246 (Nat.le_of_ble_eq_true rfl) (Nat.le_of_ble_eq_true rfl) rfl ?_
              change ab_W _ _ _ G114 248 [some (vR 80), some (vz sc), some (vz wi), some (vz v14), some (vz (32 * 0)), none] [] _
              refine ab_aload_n d_MO_compile_248 rfl ?_
              refine ab_getf (fs := mof 0 0 m_length m_out w218 g219 s220 r221 n222 a215 fl223 f228 p229 nu224 d225 v216 nt217 le226 mo227 sc 0 m_got (0 + 1) m_charAt m_charWide m_trail m_isMatch m_matchGroups m_allFrom m_allBefore m_founds m_pieces m_writtenMany m_templateWide m_tooMuch) f_MO_174 d_MO_compile_249 h80.2.2 rfl ?_
              refine ab_iload d_MO_compile_252 rfl ?_
              refine ab_aload_n d_MO_compile_254 rfl ?_
              refine zz_iconst d_MO_compile_255 ?_
              refine zz_iconst d_MO_compile_256 ?_
              refine zz_iconst d_MO_compile_257 ?_
              refine ab_callV (d' := d - 1) (as := [vz 0, vz (-1), vz 0]) (st := [vz (32 * 0), vR 133]) (r := _) (z_MO_addStep (o := o) (m_thrown := 0) (m_taped := 0) (m_length := m_length) (m_out := m_out) (m_wide := w218) (m_gathered := g219) (m_sets := s220) (m_ranges := r221) (m_nodes := n222) (m_at := a215) (m_flags := fl223) (m_fault := f228) (m_place := p229) (m_numbered := nu224) (m_depth := d225) (m_value := v216) (m_isNot := nt217) (m_least0 := le226) (m_most0 := mo227) (m_slot := sc) (m_work := 0) (m_got := m_got) (m_rowMany := (0 + 1)) (m_charAt := m_charAt) (m_charWide := m_charWide) (m_trail := m_trail) (m_isMatch := m_isMatch) (m_matchGroups := m_matchGroups) (m_allFrom := m_allFrom) (m_allBefore := m_allBefore) (m_founds := m_founds) (m_pieces := m_pieces) (m_writtenMany := m_writtenMany) (m_templateWide := m_templateWide) (m_tooMuch := m_tooMuch) (T := T) (N := N) (W := W) (SN := (zu SN sc 0)) (k := 0) (x := (-1)) (y := 0) h80 h118 h119 h120 h117 (by omega) (by omega) (by omega)) (fun oc G2 h => by rcases h with ⟨h, _⟩ <;> exact ⟨_, h⟩) (by omega) m_MO_addStep ml_MO_441 im_MO_addStep se_MO_addStep c_MO h80.2.2 (Nat.le_of_ble_eq_true rfl) d_MO_compile_258 rfl ?_
              intro v G115 hq
              rcases hq with ⟨hv, hfk, hlk, hsk, hN118, hN119, hN120, hN117⟩
              cases hv
              have h80 := hfk.get h80 (by decide)
              have h84 := hfk.get h84 (by decide)
              have h87 := hfk.get h87 (by decide)
              have h88 := hfk.get h88 (by decide)
              have h93 := hfk.get h93 (by decide)
              have h81 := hfk.get h81 (by decide)
              have h82 := hfk.get h82 (by decide)
              have h91 := hfk.get h91 (by decide)
              have h92 := hfk.get h92 (by decide)
              have h110 := hfk.get h110 (by decide)
              have h111 := hfk.get h111 (by decide)
              have h121 := hfk.get h121 (by decide)
              have h122 := hfk.get h122 (by decide)
              have h123 := hfk.get h123 (by decide)
              have h124 := hfk.get h124 (by decide)
              have h125 := hfk.get h125 (by decide)
              have h133 := hfk.get h133 (by decide)
              have h128 := hfk.get h128 (by decide)
              have h129 := hfk.get h129 (by decide)
              have h130 := hfk.get h130 (by decide)
              have h131 := hfk.get h131 (by decide)
              have h132 := hfk.get h132 (by decide)
              have h112 := hfk.get h112 (by decide)
              have h114 := hfk.get h114 (by decide)
              have h115 := hfk.get h115 (by decide)
              have h116 := hfk.get h116 (by decide)
              have h113 := hfk.get h113 (by decide)
              have h126 := hfk.get h126 (by decide)
              have h127 := hfk.get h127 (by decide)
              have h94 := hfk.get h94 (by decide)
              have h95 := hfk.get h95 (by decide)
              have h96 := hfk.get h96 (by decide)
              have h97 := hfk.get h97 (by decide)
              have h98 := hfk.get h98 (by decide)
              have h99 := hfk.get h99 (by decide)
              have h100 := hfk.get h100 (by decide)
              have h101 := hfk.get h101 (by decide)
              have h90 := hfk.get h90 (by decide)
              have h89 := hfk.get h89 (by decide)
              have h105 := hfk.get h105 (by decide)
              have h106 := hfk.get h106 (by decide)
              have h107 := hfk.get h107 (by decide)
              have h108 := hfk.get h108 (by decide)
              have h109 := hfk.get h109 (by decide)
              have h102 := hfk.get h102 (by decide)
              have h103 := hfk.get h103 (by decide)
              have h104 := hfk.get h104 (by decide)
              have hfr := hfr.tr hfk (by decide)
              have hlen := hlk.trans hlen
              have hsl := hsk.trans hsl
              have h118 := hN118
              have h119 := hN119
              have h120 := hN120
              have h117 := hN117
              change ab_W _ _ _ G115 261 [some (vR 80), some (vz sc), some (vz wi), some (vz v14), some (vz (32 * 0)), none] [vz ((zu SN sc 0) sc), vz (32 * 0), vR 133] _
              refine zz_iast d_MO_compile_261 h133 (by omega) (h133.2.1 (by decide)) ?_
              obtain ⟨G116, eG116⟩ : ∃ z : ab_G, z = List.set G115 133 (za 40000 (zu RO (32 * 0) ((zu SN sc 0) sc))) := ⟨_, rfl⟩
              have h80 := h80.keep h133 eG116 (by decide)
              have h84 := h84.keep h133 eG116 (by decide)
              have h87 := h87.keep h133 eG116 (by decide)
              have h88 := h88.keep h133 eG116 (by decide)
              have h93 := h93.keep h133 eG116 (by decide)
              have h81 := h81.keep h133 eG116 (by decide)
              have h82 := h82.keep h133 eG116 (by decide)
              have h91 := h91.keep h133 eG116 (by decide)
              have h92 := h92.keep h133 eG116 (by decide)
              have h110 := h110.keep h133 eG116 (by decide)
              have h111 := h111.keep h133 eG116 (by decide)
              have h118 := h118.keep h133 eG116 (by decide)
              have h119 := h119.keep h133 eG116 (by decide)
              have h120 := h120.keep h133 eG116 (by decide)
              have h121 := h121.keep h133 eG116 (by decide)
              have h122 := h122.keep h133 eG116 (by decide)
              have h123 := h123.keep h133 eG116 (by decide)
              have h124 := h124.keep h133 eG116 (by decide)
              have h117 := h117.keep h133 eG116 (by decide)
              have h125 := h125.keep h133 eG116 (by decide)
              have h128 := h128.keep h133 eG116 (by decide)
              have h129 := h129.keep h133 eG116 (by decide)
              have h130 := h130.keep h133 eG116 (by decide)
              have h131 := h131.keep h133 eG116 (by decide)
              have h132 := h132.keep h133 eG116 (by decide)
              have h112 := h112.keep h133 eG116 (by decide)
              have h114 := h114.keep h133 eG116 (by decide)
              have h115 := h115.keep h133 eG116 (by decide)
              have h116 := h116.keep h133 eG116 (by decide)
              have h113 := h113.keep h133 eG116 (by decide)
              have h126 := h126.keep h133 eG116 (by decide)
              have h127 := h127.keep h133 eG116 (by decide)
              have h94 := h94.keep h133 eG116 (by decide)
              have h95 := h95.keep h133 eG116 (by decide)
              have h96 := h96.keep h133 eG116 (by decide)
              have h97 := h97.keep h133 eG116 (by decide)
              have h98 := h98.keep h133 eG116 (by decide)
              have h99 := h99.keep h133 eG116 (by decide)
              have h100 := h100.keep h133 eG116 (by decide)
              have h101 := h101.keep h133 eG116 (by decide)
              have h90 := h90.keep h133 eG116 (by decide)
              have h89 := h89.keep h133 eG116 (by decide)
              have h105 := h105.keep h133 eG116 (by decide)
              have h106 := h106.keep h133 eG116 (by decide)
              have h107 := h107.keep h133 eG116 (by decide)
              have h108 := h108.keep h133 eG116 (by decide)
              have h109 := h109.keep h133 eG116 (by decide)
              have h102 := h102.keep h133 eG116 (by decide)
              have h103 := h103.keep h133 eG116 (by decide)
              have h104 := h104.keep h133 eG116 (by decide)
              have hlen := (z_len eG116).trans hlen
              have hsl := (z_sl h133 eG116 rfl).trans hsl
              have hfr := hfr.wr h133 eG116 (by decide)
              have h133 := h133.kept eG116
              change ab_W _ _ _ (List.set G115 133 (za 40000 (zu RO (32 * 0) ((zu SN sc 0) sc)))) 262 [some (vR 80), some (vz sc), some (vz wi), some (vz v14), some (vz (32 * 0)), none] [] _
              rw [← eG116]
              have z1_ : zu (zu SN sc 0) sc (((zu SN sc 0) sc) + 1) sc = (((zu SN sc 0) sc) + 1) := zu_self _ _ _
              refine ab_aload_n d_MO_compile_262 rfl ?_
              refine zz_bipush d_MO_compile_263 (by decide) ?_
              refine zz_iconst d_MO_compile_265 ?_
              refine zz_iconst d_MO_compile_266 ?_
              refine ab_callV (d' := d - 1) (as := [vz 6, vz (-1), vz 0]) (st := []) (r := _) (z_MO_addStep (o := o) (m_thrown := 0) (m_taped := 0) (m_length := m_length) (m_out := m_out) (m_wide := w218) (m_gathered := g219) (m_sets := s220) (m_ranges := r221) (m_nodes := n222) (m_at := a215) (m_flags := fl223) (m_fault := f228) (m_place := p229) (m_numbered := nu224) (m_depth := d225) (m_value := v216) (m_isNot := nt217) (m_least0 := le226) (m_most0 := mo227) (m_slot := sc) (m_work := 0) (m_got := m_got) (m_rowMany := (0 + 1)) (m_charAt := m_charAt) (m_charWide := m_charWide) (m_trail := m_trail) (m_isMatch := m_isMatch) (m_matchGroups := m_matchGroups) (m_allFrom := m_allFrom) (m_allBefore := m_allBefore) (m_founds := m_founds) (m_pieces := m_pieces) (m_writtenMany := m_writtenMany) (m_templateWide := m_templateWide) (m_tooMuch := m_tooMuch) (T := (zu T ((12500 * sc) + ((zu SN sc 0) sc)) 0)) (N := (zu N ((12500 * sc) + ((zu SN sc 0) sc)) (-1))) (W := (zu W ((12500 * sc) + ((zu SN sc 0) sc)) 0)) (SN := (zu (zu SN sc 0) sc (((zu SN sc 0) sc) + 1))) (k := 6) (x := (-1)) (y := 0) h80 h118 h119 h120 h117 (by omega) (by omega) (by omega)) (fun oc G2 h => by rcases h with ⟨h, _⟩ <;> exact ⟨_, h⟩) (by omega) m_MO_addStep ml_MO_441 im_MO_addStep se_MO_addStep c_MO h80.2.2 (Nat.le_of_ble_eq_true rfl) d_MO_compile_267 rfl ?_
              intro v G117 hq
              rcases hq with ⟨hv, hfk, hlk, hsk, hN118, hN119, hN120, hN117⟩
              cases hv
              have h80 := hfk.get h80 (by decide)
              have h84 := hfk.get h84 (by decide)
              have h87 := hfk.get h87 (by decide)
              have h88 := hfk.get h88 (by decide)
              have h93 := hfk.get h93 (by decide)
              have h81 := hfk.get h81 (by decide)
              have h82 := hfk.get h82 (by decide)
              have h91 := hfk.get h91 (by decide)
              have h92 := hfk.get h92 (by decide)
              have h110 := hfk.get h110 (by decide)
              have h111 := hfk.get h111 (by decide)
              have h121 := hfk.get h121 (by decide)
              have h122 := hfk.get h122 (by decide)
              have h123 := hfk.get h123 (by decide)
              have h124 := hfk.get h124 (by decide)
              have h125 := hfk.get h125 (by decide)
              have h133 := hfk.get h133 (by decide)
              have h128 := hfk.get h128 (by decide)
              have h129 := hfk.get h129 (by decide)
              have h130 := hfk.get h130 (by decide)
              have h131 := hfk.get h131 (by decide)
              have h132 := hfk.get h132 (by decide)
              have h112 := hfk.get h112 (by decide)
              have h114 := hfk.get h114 (by decide)
              have h115 := hfk.get h115 (by decide)
              have h116 := hfk.get h116 (by decide)
              have h113 := hfk.get h113 (by decide)
              have h126 := hfk.get h126 (by decide)
              have h127 := hfk.get h127 (by decide)
              have h94 := hfk.get h94 (by decide)
              have h95 := hfk.get h95 (by decide)
              have h96 := hfk.get h96 (by decide)
              have h97 := hfk.get h97 (by decide)
              have h98 := hfk.get h98 (by decide)
              have h99 := hfk.get h99 (by decide)
              have h100 := hfk.get h100 (by decide)
              have h101 := hfk.get h101 (by decide)
              have h90 := hfk.get h90 (by decide)
              have h89 := hfk.get h89 (by decide)
              have h105 := hfk.get h105 (by decide)
              have h106 := hfk.get h106 (by decide)
              have h107 := hfk.get h107 (by decide)
              have h108 := hfk.get h108 (by decide)
              have h109 := hfk.get h109 (by decide)
              have h102 := hfk.get h102 (by decide)
              have h103 := hfk.get h103 (by decide)
              have h104 := hfk.get h104 (by decide)
              have hfr := hfr.tr hfk (by decide)
              have hlen := hlk.trans hlen
              have hsl := hsk.trans hsl
              have h118 := hN118
              have h119 := hN119
              have h120 := hN120
              have h117 := hN117
              change ab_W _ _ _ G117 270 [some (vR 80), some (vz sc), some (vz wi), some (vz v14), some (vz (32 * 0)), none] [vz ((zu (zu SN sc 0) sc (((zu SN sc 0) sc) + 1)) sc)] _
              refine ab_istore d_MO_compile_270 (Nat.le_of_ble_eq_true rfl) (Nat.le_of_ble_eq_true rfl) rfl ?_
              change ab_W _ _ _ G117 272 [some (vR 80), some (vz sc), some (vz wi), some (vz v14), some (vz (32 * 0)), some (vz ((zu (zu SN sc 0) sc (((zu SN sc 0) sc) + 1)) sc))] [] _
              have z2_ : zu (zu (zu SN sc 0) sc (((zu SN sc 0) sc) + 1)) sc (((zu (zu SN sc 0) sc (((zu SN sc 0) sc) + 1)) sc) + 1) sc = (((zu (zu SN sc 0) sc (((zu SN sc 0) sc) + 1)) sc) + 1) := zu_self _ _ _
              refine ab_aload_n d_MO_compile_272 rfl ?_
              refine ab_iload_n d_MO_compile_273 rfl ?_
              refine zz_iconst d_MO_compile_274 ?_
              refine ab_iload d_MO_compile_275 rfl ?_
              refine ab_callV (d' := d - 1) (as := [vz v14, vz 0, vz (32 * 0)]) (st := []) (r := _) (z_MO_open (o := o) (m_thrown := 0) (m_taped := 0) (m_length := m_length) (m_out := m_out) (m_wide := w218) (m_gathered := g219) (m_sets := s220) (m_ranges := r221) (m_nodes := n222) (m_at := a215) (m_flags := fl223) (m_fault := f228) (m_place := p229) (m_numbered := nu224) (m_depth := d225) (m_value := v216) (m_isNot := nt217) (m_least0 := le226) (m_most0 := mo227) (m_slot := sc) (m_work := 0) (m_got := m_got) (m_rowMany := (0 + 1)) (m_charAt := m_charAt) (m_charWide := m_charWide) (m_trail := m_trail) (m_isMatch := m_isMatch) (m_matchGroups := m_matchGroups) (m_allFrom := m_allFrom) (m_allBefore := m_allBefore) (m_founds := m_founds) (m_pieces := m_pieces) (m_writtenMany := m_writtenMany) (m_templateWide := m_templateWide) (m_tooMuch := m_tooMuch) (WP := WP) (WD := WD) (WT := WT) (WG := WG) (WS := WS) (to := (32 * 0)) (x := v14) (y := 0) h80 h128 h129 h130 h131 h132 (by omega) (by omega)) (fun oc G2 h => by rcases h with ⟨h, _⟩ <;> exact ⟨_, h⟩) (by omega) m_MO_open ml_MO_464 im_MO_open se_MO_open c_MO h80.2.2 (Nat.le_of_ble_eq_true rfl) d_MO_compile_277 rfl ?_
              intro v G118 hq
              rcases hq with ⟨hv, hfk, hlk, hsk, hN80, hN128, hN129, hN130, hN131, hN132⟩
              cases hv
              have h84 := hfk.get h84 (by decide)
              have h87 := hfk.get h87 (by decide)
              have h88 := hfk.get h88 (by decide)
              have h93 := hfk.get h93 (by decide)
              have h81 := hfk.get h81 (by decide)
              have h82 := hfk.get h82 (by decide)
              have h91 := hfk.get h91 (by decide)
              have h92 := hfk.get h92 (by decide)
              have h110 := hfk.get h110 (by decide)
              have h111 := hfk.get h111 (by decide)
              have h118 := hfk.get h118 (by decide)
              have h119 := hfk.get h119 (by decide)
              have h120 := hfk.get h120 (by decide)
              have h121 := hfk.get h121 (by decide)
              have h122 := hfk.get h122 (by decide)
              have h123 := hfk.get h123 (by decide)
              have h124 := hfk.get h124 (by decide)
              have h117 := hfk.get h117 (by decide)
              have h125 := hfk.get h125 (by decide)
              have h133 := hfk.get h133 (by decide)
              have h112 := hfk.get h112 (by decide)
              have h114 := hfk.get h114 (by decide)
              have h115 := hfk.get h115 (by decide)
              have h116 := hfk.get h116 (by decide)
              have h113 := hfk.get h113 (by decide)
              have h126 := hfk.get h126 (by decide)
              have h127 := hfk.get h127 (by decide)
              have h94 := hfk.get h94 (by decide)
              have h95 := hfk.get h95 (by decide)
              have h96 := hfk.get h96 (by decide)
              have h97 := hfk.get h97 (by decide)
              have h98 := hfk.get h98 (by decide)
              have h99 := hfk.get h99 (by decide)
              have h100 := hfk.get h100 (by decide)
              have h101 := hfk.get h101 (by decide)
              have h90 := hfk.get h90 (by decide)
              have h89 := hfk.get h89 (by decide)
              have h105 := hfk.get h105 (by decide)
              have h106 := hfk.get h106 (by decide)
              have h107 := hfk.get h107 (by decide)
              have h108 := hfk.get h108 (by decide)
              have h109 := hfk.get h109 (by decide)
              have h102 := hfk.get h102 (by decide)
              have h103 := hfk.get h103 (by decide)
              have h104 := hfk.get h104 (by decide)
              have hfr := hfr.tr hfk (by decide)
              have hlen := hlk.trans hlen
              have hsl := hsk.trans hsl
              have h80 := hN80
              have h128 := hN128
              have h129 := hN129
              have h130 := hN130
              have h131 := hN131
              have h132 := hN132
              change ab_W _ _ _ G118 280 [some (vR 80), some (vz sc), some (vz wi), some (vz v14), some (vz (32 * 0)), some (vz ((zu (zu SN sc 0) sc (((zu SN sc 0) sc) + 1)) sc))] [] _
              have hd2_ : d225 = 0 := by omega
              rw [hd2_] at jt
              have hrt_ := jt
              obtain ⟨pa, po, MN, dl, st, ht, hh, PS, T_, dm, pm, ⟨jG, hdn_, _, _, _⟩, jM, _, _, jD_⟩ := hrt_
              obtain ⟨hd1_, _, hd3_, hd4_, _⟩ := hdn_ (by omega)
              have hd5_ : hh v14 ≤ 124 := by split at hd4_; (omega); (split at hd4_ <;> omega)
              have hct_ := cs_top (z := Z v14) (by omega)
              obtain ⟨hst0_, _⟩ := (jG.2.1 v14 (by omega) hd1_).2.1.1
              have hM_ : mcc o G118 0 0 m_length m_out w218 g219 s220 r221 n222 a215 fl223 f228 p229 nu224 d225 v216 nt217 le226 mo227 sc (0 + 1) m_got (0 + 1) m_charAt m_charWide m_trail m_isMatch m_matchGroups m_allFrom m_allBefore m_founds m_pieces m_writtenMany m_templateWide m_tooMuch (zu (zu T ((12500 * sc) + ((zu SN sc 0) sc)) 0) ((12500 * sc) + ((zu (zu SN sc 0) sc (((zu SN sc 0) sc) + 1)) sc)) 6) (zu (zu N ((12500 * sc) + ((zu SN sc 0) sc)) (-1)) ((12500 * sc) + ((zu (zu SN sc 0) sc (((zu SN sc 0) sc) + 1)) sc)) (-1)) (zu (zu W ((12500 * sc) + ((zu SN sc 0) sc)) 0) ((12500 * sc) + ((zu (zu SN sc 0) sc (((zu SN sc 0) sc) + 1)) sc)) 0) CA CM CL CH (zu (zu (zu SN sc 0) sc (((zu SN sc 0) sc) + 1)) sc (((zu (zu SN sc 0) sc (((zu SN sc 0) sc) + 1)) sc) + 1)) (zu CC sc 0) (zu RO (32 * 0) ((zu SN sc 0) sc)) (zu WP 0 v14) (zu WD 0 0) (zu WT 0 (32 * 0)) (zu WG 0 (32 * 0)) (zu WS 0 0) K O Fi Be Le Mo Z LZ SM SA RL233 RH234 s220 := ⟨h80, h94, h95, h96, h97, h98, h99, h100, h101, h90, h89, h91, h92, h118, h119, h120, h121, h122, h123, h124, h117, h125, h133, h128, h129, h130, h131, h132, (by omega), (by omega), hq44, hq45, jk, jo, jfi, jbe, jle, jmo, jz, jlz, jsm, jsa, (rgs_zu (rgs_zu gt (by omega)) (by omega)), (rgs_zu (rgs_zu gn (by omega)) (by omega)), (rgs_zu (rgs_zu gw (by omega)) (by omega)), gca, gcm, gcl, gch, (rgs_zu (rgs_zu (rgs_zu gsn (by omega)) (by omega)) (by omega)), (rgs_zu gcc (by omega)), (rgs_zu gro (by omega)), (rgs_zu gwp (by omega)), (rgs_zu gwd (by omega)), (rgs_zu gwt (by omega)), (rgs_zu gwg (by omega)), (rgs_zu gws (by omega)), (by rw [z2_, z1_]; exact tka_add (k2 := 0) (tka_add (k2 := 0) (tka_n0 (by omega)) (by decide)) (by decide)), jss, (by omega)⟩
              refine ab_less (L' := [some (vR 80), some (vz sc), none, none, none, none]) (fun i v h => by rcases i with _ | _ | _ | _ | _ | _ | i <;> first | exact h | (simp at h)) ?_
              refine mrun (d := d) jG (by omega) (by omega) jM jsv ((st v14).toNat + 1) (x := v14) (dp := 0) (to := 32 * 0) hM_ (by rw [show (0 : Int) + 1 - 1 = 0 by decide]; exact zu_self _ _ _) (by rw [show (0 : Int) + 1 - 1 = 0 by decide]; exact zu_self _ _ _) (by rw [show (0 : Int) + 1 - 1 = 0 by decide]; exact zu_self _ _ _) (by rw [show (0 : Int) + 1 - 1 = 0 by decide]; exact zu_self _ _ _) (by rw [show (0 : Int) + 1 - 1 = 0 by decide]; exact zu_self _ _ _) ⟨by omega, by omega, by omega, by omega, by omega⟩ (by omega) (by omega) (fun k a c => by rw [show 32 * 0 + k = 32 * 0 by omega, zu_self]; omega) fx.rf rfl rfl (fun G9 Tq Nq Wq CAq CMq CLq CHq SNq CCq ROq WPq WDq WTq WGq WSq g9 rm9 m9 s9 r9 n9 v9 o9 b9_ f1 f2 f3 => ?_)
              have h84 := f1.get h84 (by decide)
              have h87 := f1.get h87 (by decide)
              have h88 := f1.get h88 (by decide)
              have h93 := f1.get h93 (by decide)
              have h81 := f1.get h81 (by decide)
              have h82 := f1.get h82 (by decide)
              have h110 := f1.get h110 (by decide)
              have h111 := f1.get h111 (by decide)
              have h112 := f1.get h112 (by decide)
              have h114 := f1.get h114 (by decide)
              have h115 := f1.get h115 (by decide)
              have h116 := f1.get h116 (by decide)
              have h113 := f1.get h113 (by decide)
              have h126 := f1.get h126 (by decide)
              have h127 := f1.get h127 (by decide)
              have h105 := f1.get h105 (by decide)
              have h106 := f1.get h106 (by decide)
              have h107 := f1.get h107 (by decide)
              have h108 := f1.get h108 (by decide)
              have h109 := f1.get h109 (by decide)
              have h102 := f1.get h102 (by decide)
              have h103 := f1.get h103 (by decide)
              have h104 := f1.get h104 (by decide)
              have hfr := hfr.tr f1 (by decide)
              have hlen := f2.trans hlen
              have hsl := f3.trans hsl
              obtain ⟨hN80, hN94, hN95, hN96, hN97, hN98, hN99, hN100, hN101, hN90, hN89, hN91, hN92, hN118, hN119, hN120, hN121, hN122, hN123, hN124, hN117, hN125, hN133, hN128, hN129, hN130, hN131, hN132, n9_n18, n9_csl, n9_jrl, n9_jrh, n9_jk, n9_jo, n9_jfi, n9_jbe, n9_jle, n9_jmo, n9_jz, n9_jlz, n9_jsm, n9_jsa, n9_gt, n9_gn, n9_gw, n9_gca, n9_gcm, n9_gcl, n9_gch, n9_gsn, n9_gcc, n9_gro, n9_gwp, n9_gwd, n9_gwt, n9_gwg, n9_gws, n9_jka, n9_jss, n9_cst⟩ := m9
              have h80 := hN80
              have h94 := hN94
              have h95 := hN95
              have h96 := hN96
              have h97 := hN97
              have h98 := hN98
              have h99 := hN99
              have h100 := hN100
              have h101 := hN101
              have h90 := hN90
              have h89 := hN89
              have h91 := hN91
              have h92 := hN92
              have h118 := hN118
              have h119 := hN119
              have h120 := hN120
              have h121 := hN121
              have h122 := hN122
              have h123 := hN123
              have h124 := hN124
              have h117 := hN117
              have h125 := hN125
              have h133 := hN133
              have h128 := hN128
              have h129 := hN129
              have h130 := hN130
              have h131 := hN131
              have h132 := hN132
              have ho9_ := o9 0 (by omega) (by omega)
              rw [Int.add_zero] at ho9_
              have hc9_ := n9_gcc sc (by omega) (by omega)
              change ab_W _ _ _ G9 280 [some (vR 80), some (vz sc), none, none, none, none] [] _
              refine ab_aload_n d_MO_compile_280 rfl ?_
              refine ab_getf (fs := mof 0 0 m_length m_out w218 g219 s220 r221 n222 a215 fl223 f228 p229 nu224 d225 v216 nt217 le226 mo227 sc ((0 + 1) - 1) g9 rm9 m_charAt m_charWide m_trail m_isMatch m_matchGroups m_allFrom m_allBefore m_founds m_pieces m_writtenMany m_templateWide m_tooMuch) f_MO_445 d_MO_compile_281 h80.2.2 rfl ?_
              refine zz_if_le (tgt := 300) d_MO_compile_284 (by decide) (by omega) (fun c119 => ?_) (fun c119 => absurd c119 (by omega))
              refine ab_aload_n d_MO_compile_300 rfl ?_
              refine ab_getf (fs := mof 0 0 m_length m_out w218 g219 s220 r221 n222 a215 fl223 f228 p229 nu224 d225 v216 nt217 le226 mo227 sc ((0 + 1) - 1) g9 rm9 m_charAt m_charWide m_trail m_isMatch m_matchGroups m_allFrom m_allBefore m_founds m_pieces m_writtenMany m_templateWide m_tooMuch) f_MO_112 d_MO_compile_301 h80.2.2 rfl ?_
              refine ab_iload_n d_MO_compile_304 rfl ?_
              refine ab_aload_n d_MO_compile_305 rfl ?_
              refine ab_getf (fs := mof 0 0 m_length m_out w218 g219 s220 r221 n222 a215 fl223 f228 p229 nu224 d225 v216 nt217 le226 mo227 sc ((0 + 1) - 1) g9 rm9 m_charAt m_charWide m_trail m_isMatch m_matchGroups m_allFrom m_allBefore m_founds m_pieces m_writtenMany m_templateWide m_tooMuch) f_MO_174 d_MO_compile_306 h80.2.2 rfl ?_
              refine ab_aload_n d_MO_compile_309 rfl ?_
              refine ab_getf (fs := mof 0 0 m_length m_out w218 g219 s220 r221 n222 a215 fl223 f228 p229 nu224 d225 v216 nt217 le226 mo227 sc ((0 + 1) - 1) g9 rm9 m_charAt m_charWide m_trail m_isMatch m_matchGroups m_allFrom m_allBefore m_founds m_pieces m_writtenMany m_templateWide m_tooMuch) f_MO_448 d_MO_compile_310 h80.2.2 rfl ?_
              refine zz_iald d_MO_compile_313 h133 (by omega) ?_
              refine zz_iast d_MO_compile_314 h113 (by omega) (h113.2.1 (by decide)) ?_
              obtain ⟨G120, eG120⟩ : ∃ z : ab_G, z = List.set G9 113 (za 6 (zu EN sc (ROq g9))) := ⟨_, rfl⟩
              have h80 := h80.keep h113 eG120 (by decide)
              have h84 := h84.keep h113 eG120 (by decide)
              have h87 := h87.keep h113 eG120 (by decide)
              have h88 := h88.keep h113 eG120 (by decide)
              have h93 := h93.keep h113 eG120 (by decide)
              have h81 := h81.keep h113 eG120 (by decide)
              have h82 := h82.keep h113 eG120 (by decide)
              have h91 := h91.keep h113 eG120 (by decide)
              have h92 := h92.keep h113 eG120 (by decide)
              have h110 := h110.keep h113 eG120 (by decide)
              have h111 := h111.keep h113 eG120 (by decide)
              have h118 := h118.keep h113 eG120 (by decide)
              have h119 := h119.keep h113 eG120 (by decide)
              have h120 := h120.keep h113 eG120 (by decide)
              have h121 := h121.keep h113 eG120 (by decide)
              have h122 := h122.keep h113 eG120 (by decide)
              have h123 := h123.keep h113 eG120 (by decide)
              have h124 := h124.keep h113 eG120 (by decide)
              have h117 := h117.keep h113 eG120 (by decide)
              have h125 := h125.keep h113 eG120 (by decide)
              have h133 := h133.keep h113 eG120 (by decide)
              have h128 := h128.keep h113 eG120 (by decide)
              have h129 := h129.keep h113 eG120 (by decide)
              have h130 := h130.keep h113 eG120 (by decide)
              have h131 := h131.keep h113 eG120 (by decide)
              have h132 := h132.keep h113 eG120 (by decide)
              have h112 := h112.keep h113 eG120 (by decide)
              have h114 := h114.keep h113 eG120 (by decide)
              have h115 := h115.keep h113 eG120 (by decide)
              have h116 := h116.keep h113 eG120 (by decide)
              have h126 := h126.keep h113 eG120 (by decide)
              have h127 := h127.keep h113 eG120 (by decide)
              have h94 := h94.keep h113 eG120 (by decide)
              have h95 := h95.keep h113 eG120 (by decide)
              have h96 := h96.keep h113 eG120 (by decide)
              have h97 := h97.keep h113 eG120 (by decide)
              have h98 := h98.keep h113 eG120 (by decide)
              have h99 := h99.keep h113 eG120 (by decide)
              have h100 := h100.keep h113 eG120 (by decide)
              have h101 := h101.keep h113 eG120 (by decide)
              have h90 := h90.keep h113 eG120 (by decide)
              have h89 := h89.keep h113 eG120 (by decide)
              have h105 := h105.keep h113 eG120 (by decide)
              have h106 := h106.keep h113 eG120 (by decide)
              have h107 := h107.keep h113 eG120 (by decide)
              have h108 := h108.keep h113 eG120 (by decide)
              have h109 := h109.keep h113 eG120 (by decide)
              have h102 := h102.keep h113 eG120 (by decide)
              have h103 := h103.keep h113 eG120 (by decide)
              have h104 := h104.keep h113 eG120 (by decide)
              have hlen := (z_len eG120).trans hlen
              have hsl := (z_sl h113 eG120 rfl).trans hsl
              have hfr := hfr.wr h113 eG120 (by decide)
              have h113 := h113.kept eG120
              change ab_W _ _ _ (List.set G9 113 (za 6 (zu EN sc (ROq g9)))) 315 [some (vR 80), some (vz sc), none, none, none, none] [] _
              rw [← eG120]
              have hst_ := stx_tr (stx_add (k1 := 6) (k2 := -1) (k3 := 0) (stx_add (k1 := 0) (k2 := -1) (k3 := 0) (stx_rf (T := T) (N := N) (W := W) (CA := CA) (CM := CM) (b := 12500 * sc) (n := 0)) (n2 := zu SN sc 0 sc) (by omega)) (n2 := zu (zu SN sc 0) sc (zu SN sc 0 sc + 1) sc) (by omega)) r9.2.2.2.1 (by omega)
              have hsg_ : sgn (zu (zu T (12500 * sc + zu SN sc 0 sc) 0) (12500 * sc + (zu SN sc 0 sc + 1)) 6) (zu (zu N (12500 * sc + zu SN sc 0 sc) (-1)) (12500 * sc + (zu SN sc 0 sc + 1)) (-1)) (zu (zu W (12500 * sc + zu SN sc 0 sc) 0) (12500 * sc + (zu SN sc 0 sc + 1)) 0) (12500 * sc) (zu SN sc 0 sc) (zu SN sc 0 sc + 1 + 1) := sgn_add (sgn_add sgn_0 (by decide) (fun h => absurd h (by decide)) (fun h => absurd h (by decide)) (fun h => absurd h (by decide)) (fun h => absurd h (by decide))) (by decide) (fun _ h => absurd h (by decide)) (fun h => absurd h (by decide)) (fun h => absurd h (by decide)) (fun h => absurd h (by decide))
              have hr3_ := r9.2.2.1
              have hr4_ := r9.2.2.2.1
              have hr1_ := r9.1
              rw [z2_, z1_] at hr3_ hr4_
              have hsq_ := sgn_tr hsg_ hr4_ hr3_ (by omega)
              have hgo_ := sgood_of hsq_ (by omega) n9_jka jsm (by omega) (by omega)
              have hx0_ : Tq (12500 * sc) = 0 := by have t_ := (r9.2.2.2.1 (12500 * sc) (Or.inl (by omega))).1; have e_ : (12500 * sc : Int) = 12500 * sc + zu SN sc 0 sc := (by omega); exact t_.trans ((zu_ne (by omega)).trans (by rw [← e_]; exact zu_self _ _ _))
              have hx1_ : Tq (12500 * sc + 1) = 6 := by have t_ := (r9.2.2.2.1 (12500 * sc + 1) (Or.inl (by omega))).1; have e_ : (12500 * sc + 1 : Int) = 12500 * sc + zu (zu SN sc 0) sc (zu SN sc 0 sc + 1) sc := (by omega); exact t_.trans (by rw [← e_]; exact zu_self _ _ _)
              have hro_ : ROq (32 * 0 + 0) = 0 := by have t_ := r9.2.1 (32 * 0 + 0) (by omega); rw [t_, show (32 * 0 + 0 : Int) = 32 * 0 by omega, zu_self]; omega
              have hpr_ := prR_of b9_ (jD_ (by omega)) (by omega) hro_ hx0_ hx1_ (by omega)
              have hcc_ := ccx_lo r9.2.2.2.2.2.2 (c2 := 0) (by first | exact zu_self _ _ _ | omega)
              have hso_ := sno_tr (sno_wr (sno_wr (sno_wr (v := 0) (sno_rf (SN := SN) (s := sc))))) r9.2.2.2.2.1
              have ptrI_0 : trI o G120 0 n222 s220 0 v14 (31 - 0) 0 fr237 2 0 z938 SV239 FS240 mnI mnI v941 RL233 RH234 r221 0 0 := ⟨K, O, Fi, Be, Le, Mo, Z, LZ, SM, SA, QF, QL, AF, AL, SD, OA, OF, ON, h94, h95, h96, h97, h98, h99, h100, h101, h90, h89, h105, h106, h107, h108, h109, h102, h103, h104, jk, jo, jfi, jbe, jle, jmo, jz, jlz, jsm, jsa, jqf, jql, jaf, jal, jsd, joa, jof, jon, jt, (by omega), (fun h => absurd h (by decide)), (fun h => absurd h (by decide)), (fun h => absurd h (by decide)), (fun h => absurd h (by decide)), (fun h => absurd h (by decide)), (fun h => absurd h (by decide)), jss, jsv⟩
              refine ab_aload_n d_MO_compile_315 rfl ?_
              refine ab_getf (fs := mof 0 0 m_length m_out w218 g219 s220 r221 n222 a215 fl223 f228 p229 nu224 d225 v216 nt217 le226 mo227 sc ((0 + 1) - 1) g9 rm9 m_charAt m_charWide m_trail m_isMatch m_matchGroups m_allFrom m_allBefore m_founds m_pieces m_writtenMany m_templateWide m_tooMuch) f_MO_395 d_MO_compile_316 h80.2.2 rfl ?_
              refine zz_iret rfl d_MO_compile_319 ?_
              rw [hQ]; exact (Or.inr (Or.inr ⟨_, _, _, _, _, _, _, _, _, _, _, _, _, _, _, _, _, _, _, _, _, _, _, _, _, _, _, _, _, _, _, _, _, _, _, _, z938, v941, _, _, _, _, _, _, _, _, _, _, _, _, _, _, _, _, _, _, _, _, _, _, _, _, _, _, _, _, _, rfl, hfr, hlen, hsl, h80, h87, h88, h93, h91, h92, h110, h111, h118, h119, h120, h121, h122, h123, h124, h117, h125, h133, h128, h129, h130, h131, h132, h112, h114, h115, h116, h113, h126, h127, ptrI_0, (by omega), (by omega), (by first | exact hq43 | exact rgs_w hq43 (by omega)), (by first | exact hq44 | exact rgs_w hq44 (by omega)), (by first | exact hq45 | exact rgs_w hq45 (by omega)), (by first | exact hq46 | exact rgs_w hq46 (by omega)), (by first | exact hq47 | exact rgs_w hq47 (by omega)), (by first | exact n9_gt | exact rgs_w n9_gt (by omega)), (by first | exact n9_gn | exact rgs_w n9_gn (by omega)), (by first | exact n9_gw | exact rgs_w n9_gw (by omega)), (by first | exact n9_gca | exact rgs_w n9_gca (by omega)), (by first | exact n9_gcm | exact rgs_w n9_gcm (by omega)), (by first | exact n9_gcl | exact rgs_w n9_gcl (by omega)), (by first | exact n9_gch | exact rgs_w n9_gch (by omega)), (by first | exact n9_gsn | exact rgs_w n9_gsn (by omega)), (by first | exact n9_gcc | exact rgs_w n9_gcc (by omega)), (by first | exact n9_gro | exact rgs_w n9_gro (by omega)), (by first | exact n9_gwp | exact rgs_w n9_gwp (by omega)), (by first | exact n9_gwd | exact rgs_w n9_gwd (by omega)), (by first | exact n9_gwt | exact rgs_w n9_gwt (by omega)), (by first | exact n9_gwg | exact rgs_w n9_gwg (by omega)), (by first | exact n9_gws | exact rgs_w n9_gws (by omega)), (by first | exact (rgs_zu xth (by omega)) | exact rgs_w (rgs_zu xth (by omega)) (by omega)), (by first | exact (rgs_zu xgr (by omega)) | exact rgs_w (rgs_zu xgr (by omega)) (by omega)), (by first | exact (rgs_zu xsz (by omega)) | exact rgs_w (rgs_zu xsz (by omega)) (by omega)), (by first | exact (rgs_zu xfl (by omega)) | exact rgs_w (rgs_zu xfl (by omega)) (by omega)), (by first | exact (rgs_zu xen (by omega)) | exact rgs_w (rgs_zu xen (by omega)) (by omega)), (by first | exact hq108 | exact rgs_w hq108 (by omega)), (by first | exact hq109 | exact rgs_w hq109 (by omega)), (by exact mpg_set jpg hst_ hso_ (by omega) (by omega) (by omega) (by omega) (by omega) hgo_), (by exact hq48), (by exact hq49), (by exact mpm_set jpm hst_ hcc_ hso_ hpr_ (by omega) (by omega)), (by omega), (by rfl), (by rfl), (by rw [hzq_]), (by rfl), (by exact hq110), (by exact hq111), (by exact mdn_set jdn (by omega) (by omega) (rdN_ds hq48) (fun g a b => (hq47 g (by omega) (by omega)).2) (fun k a b => (xnz k a b).2) (fun s a b _ => (xgr s a b).2) hq110 hq111)⟩))
          · cases hv
            have h84 := hfk.get h84 (by decide)
            have h81 := hfk.get h81 (by decide)
            have h82 := hfk.get h82 (by decide)
            have h118 := hfk.get h118 (by decide)
            have h119 := hfk.get h119 (by decide)
            have h120 := hfk.get h120 (by decide)
            have h121 := hfk.get h121 (by decide)
            have h122 := hfk.get h122 (by decide)
            have h123 := hfk.get h123 (by decide)
            have h124 := hfk.get h124 (by decide)
            have h117 := hfk.get h117 (by decide)
            have h125 := hfk.get h125 (by decide)
            have h133 := hfk.get h133 (by decide)
            have h128 := hfk.get h128 (by decide)
            have h129 := hfk.get h129 (by decide)
            have h130 := hfk.get h130 (by decide)
            have h131 := hfk.get h131 (by decide)
            have h132 := hfk.get h132 (by decide)
            have h112 := hfk.get h112 (by decide)
            have h114 := hfk.get h114 (by decide)
            have h115 := hfk.get h115 (by decide)
            have h116 := hfk.get h116 (by decide)
            have h113 := hfk.get h113 (by decide)
            have h126 := hfk.get h126 (by decide)
            have h127 := hfk.get h127 (by decide)
            have ptrI_0 := pNtrI_0
            have hfr := hfr.tr hfk (by decide)
            have hlen := hlk.trans hlen
            have hsl := hsk.trans hsl
            have h80 := hN80
            have h87 := hN87
            have h88 := hN88
            have h93 := hN93
            have h91 := hN91
            have h92 := hN92
            have h110 := hN110
            have h111 := hN111
            change ab_W _ _ _ G13 45 [some (vR 80), some (vz sc), some (vz wi), none, none, none] [vz v51] _
            refine ab_istore_n d_MO_compile_45 (Nat.le_of_ble_eq_true rfl) (Nat.le_of_ble_eq_true rfl) rfl ?_
            change ab_W _ _ _ G13 46 [some (vR 80), some (vz sc), some (vz wi), some (vz v51), none, none] [] _
            refine ab_aload_n d_MO_compile_46 rfl ?_
            refine zz_iconst d_MO_compile_47 ?_
            refine ab_putf (fs := mof 0 m_taped m_length m_out w255 g256 s257 r258 n259 a252 fl260 f265 p266 nu261 d262 v253 nt254 le263 mo264 m_slot m_work m_got m_rowMany m_charAt m_charWide m_trail m_isMatch m_matchGroups m_allFrom m_allBefore m_founds m_pieces m_writtenMany m_templateWide m_tooMuch) f_MO_223 (Or.inl rfl) d_MO_compile_48 h80.2.2 (Nat.le_of_ble_eq_true rfl) (fun _ => ⟨rfl, rfl⟩) (h80.2.1 (by decide)) ?_
            obtain ⟨G121, eG121⟩ : ∃ z : ab_G, z = List.set G13 80 (ab_ob 12 (mof 0 0 m_length m_out w255 g256 s257 r258 n259 a252 fl260 f265 p266 nu261 d262 v253 nt254 le263 mo264 m_slot m_work m_got m_rowMany m_charAt m_charWide m_trail m_isMatch m_matchGroups m_allFrom m_allBefore m_founds m_pieces m_writtenMany m_templateWide m_tooMuch)) := ⟨_, rfl⟩
            have h84 := h84.keep h80 eG121 (by decide)
            have h87 := h87.keep h80 eG121 (by decide)
            have h88 := h88.keep h80 eG121 (by decide)
            have h93 := h93.keep h80 eG121 (by decide)
            have h81 := h81.keep h80 eG121 (by decide)
            have h82 := h82.keep h80 eG121 (by decide)
            have h91 := h91.keep h80 eG121 (by decide)
            have h92 := h92.keep h80 eG121 (by decide)
            have h110 := h110.keep h80 eG121 (by decide)
            have h111 := h111.keep h80 eG121 (by decide)
            have h118 := h118.keep h80 eG121 (by decide)
            have h119 := h119.keep h80 eG121 (by decide)
            have h120 := h120.keep h80 eG121 (by decide)
            have h121 := h121.keep h80 eG121 (by decide)
            have h122 := h122.keep h80 eG121 (by decide)
            have h123 := h123.keep h80 eG121 (by decide)
            have h124 := h124.keep h80 eG121 (by decide)
            have h117 := h117.keep h80 eG121 (by decide)
            have h125 := h125.keep h80 eG121 (by decide)
            have h133 := h133.keep h80 eG121 (by decide)
            have h128 := h128.keep h80 eG121 (by decide)
            have h129 := h129.keep h80 eG121 (by decide)
            have h130 := h130.keep h80 eG121 (by decide)
            have h131 := h131.keep h80 eG121 (by decide)
            have h132 := h132.keep h80 eG121 (by decide)
            have h112 := h112.keep h80 eG121 (by decide)
            have h114 := h114.keep h80 eG121 (by decide)
            have h115 := h115.keep h80 eG121 (by decide)
            have h116 := h116.keep h80 eG121 (by decide)
            have h113 := h113.keep h80 eG121 (by decide)
            have h126 := h126.keep h80 eG121 (by decide)
            have h127 := h127.keep h80 eG121 (by decide)
            have hst := (fx.rf (o := o) (S := [280]) (G := G13)).wr h80 eG121 (List.mem_singleton.mpr rfl)
            have ptrI_0 := trI.fr hst ptrI_0 (by decide) (by decide) (by decide) (by decide) (by decide) (by decide) (by decide) (by decide) (by decide) (by decide) (by decide) (by decide) (by decide) (by decide) (by decide) (by decide) (by decide) (by decide)
            have hlen := (z_len eG121).trans hlen
            have hsl := (z_sl h80 eG121 rfl).trans hsl
            have hfr := hfr.wr h80 eG121 (by decide)
            have h80 := h80.kept eG121
            change ab_W _ _ _ (List.set G13 80 (ab_ob 12 (mof 0 0 m_length m_out w255 g256 s257 r258 n259 a252 fl260 f265 p266 nu261 d262 v253 nt254 le263 mo264 m_slot m_work m_got m_rowMany m_charAt m_charWide m_trail m_isMatch m_matchGroups m_allFrom m_allBefore m_founds m_pieces m_writtenMany m_templateWide m_tooMuch))) 51 [some (vR 80), some (vz sc), some (vz wi), some (vz v51), none, none] [] _
            rw [← eG121]
            refine ab_aload_n d_MO_compile_51 rfl ?_
            refine ab_aload_n d_MO_compile_52 rfl ?_
            refine ab_getf (fs := mof 0 0 m_length m_out w255 g256 s257 r258 n259 a252 fl260 f265 p266 nu261 d262 v253 nt254 le263 mo264 m_slot m_work m_got m_rowMany m_charAt m_charWide m_trail m_isMatch m_matchGroups m_allFrom m_allBefore m_founds m_pieces m_writtenMany m_templateWide m_tooMuch) f_MO_273 d_MO_compile_53 h80.2.2 rfl ?_
            refine zz_if_le (tgt := 63) d_MO_compile_56 (by decide) (by omega) (fun c122 => absurd c122 (by omega)) (fun c122 => ?_)
            refine zz_iconst d_MO_compile_59 ?_
            refine ab_goto (tgt := 64) d_MO_compile_60 (by decide) ?_
            refine ab_putf (fs := mof 0 0 m_length m_out w255 g256 s257 r258 n259 a252 fl260 f265 p266 nu261 d262 v253 nt254 le263 mo264 m_slot m_work m_got m_rowMany m_charAt m_charWide m_trail m_isMatch m_matchGroups m_allFrom m_allBefore m_founds m_pieces m_writtenMany m_templateWide m_tooMuch) f_MO_220 (Or.inl rfl) d_MO_compile_64 h80.2.2 (Nat.le_of_ble_eq_true rfl) (fun _ => ⟨rfl, rfl⟩) (h80.2.1 (by decide)) ?_
            obtain ⟨G123, eG123⟩ : ∃ z : ab_G, z = List.set G121 80 (ab_ob 12 (mof 1 0 m_length m_out w255 g256 s257 r258 n259 a252 fl260 f265 p266 nu261 d262 v253 nt254 le263 mo264 m_slot m_work m_got m_rowMany m_charAt m_charWide m_trail m_isMatch m_matchGroups m_allFrom m_allBefore m_founds m_pieces m_writtenMany m_templateWide m_tooMuch)) := ⟨_, rfl⟩
            have h84 := h84.keep h80 eG123 (by decide)
            have h87 := h87.keep h80 eG123 (by decide)
            have h88 := h88.keep h80 eG123 (by decide)
            have h93 := h93.keep h80 eG123 (by decide)
            have h81 := h81.keep h80 eG123 (by decide)
            have h82 := h82.keep h80 eG123 (by decide)
            have h91 := h91.keep h80 eG123 (by decide)
            have h92 := h92.keep h80 eG123 (by decide)
            have h110 := h110.keep h80 eG123 (by decide)
            have h111 := h111.keep h80 eG123 (by decide)
            have h118 := h118.keep h80 eG123 (by decide)
            have h119 := h119.keep h80 eG123 (by decide)
            have h120 := h120.keep h80 eG123 (by decide)
            have h121 := h121.keep h80 eG123 (by decide)
            have h122 := h122.keep h80 eG123 (by decide)
            have h123 := h123.keep h80 eG123 (by decide)
            have h124 := h124.keep h80 eG123 (by decide)
            have h117 := h117.keep h80 eG123 (by decide)
            have h125 := h125.keep h80 eG123 (by decide)
            have h133 := h133.keep h80 eG123 (by decide)
            have h128 := h128.keep h80 eG123 (by decide)
            have h129 := h129.keep h80 eG123 (by decide)
            have h130 := h130.keep h80 eG123 (by decide)
            have h131 := h131.keep h80 eG123 (by decide)
            have h132 := h132.keep h80 eG123 (by decide)
            have h112 := h112.keep h80 eG123 (by decide)
            have h114 := h114.keep h80 eG123 (by decide)
            have h115 := h115.keep h80 eG123 (by decide)
            have h116 := h116.keep h80 eG123 (by decide)
            have h113 := h113.keep h80 eG123 (by decide)
            have h126 := h126.keep h80 eG123 (by decide)
            have h127 := h127.keep h80 eG123 (by decide)
            have hst := (fx.rf (o := o) (S := [280]) (G := G121)).wr h80 eG123 (List.mem_singleton.mpr rfl)
            have ptrI_0 := trI.fr hst ptrI_0 (by decide) (by decide) (by decide) (by decide) (by decide) (by decide) (by decide) (by decide) (by decide) (by decide) (by decide) (by decide) (by decide) (by decide) (by decide) (by decide) (by decide) (by decide)
            have hlen := (z_len eG123).trans hlen
            have hsl := (z_sl h80 eG123 rfl).trans hsl
            have hfr := hfr.wr h80 eG123 (by decide)
            have h80 := h80.kept eG123
            change ab_W _ _ _ (List.set G121 80 (ab_ob 12 (mof 1 0 m_length m_out w255 g256 s257 r258 n259 a252 fl260 f265 p266 nu261 d262 v253 nt254 le263 mo264 m_slot m_work m_got m_rowMany m_charAt m_charWide m_trail m_isMatch m_matchGroups m_allFrom m_allBefore m_founds m_pieces m_writtenMany m_templateWide m_tooMuch))) 67 [some (vR 80), some (vz sc), some (vz wi), some (vz v51), none, none] [] _
            rw [← eG123]
            refine ab_aload_n d_MO_compile_67 rfl ?_
            refine ab_getf (fs := mof 1 0 m_length m_out w255 g256 s257 r258 n259 a252 fl260 f265 p266 nu261 d262 v253 nt254 le263 mo264 m_slot m_work m_got m_rowMany m_charAt m_charWide m_trail m_isMatch m_matchGroups m_allFrom m_allBefore m_founds m_pieces m_writtenMany m_templateWide m_tooMuch) f_MO_220 d_MO_compile_68 h80.2.2 rfl ?_
            refine zz_if_le (tgt := 76) d_MO_compile_71 (by decide) (by decide) (fun c124 => absurd c124 (by decide)) (fun c124 => ?_)
            refine zz_iconst d_MO_compile_74 ?_
            refine zz_iret rfl d_MO_compile_75 ?_
            rw [hQ]; exact (Or.inr (Or.inl ⟨_, _, _, _, _, _, _, _, _, _, _, _, _, _, _, _, _, _, _, _, _, _, _, _, _, _, _, _, _, _, _, _, _, _, _, _, _, _, _, rfl, hfr, hlen, hsl, h80, h87, h88, h93, h91, h92, h110, h111, h118, h119, h120, h121, h122, h123, h124, h117, h125, h133, h128, h129, h130, h131, h132, h112, h114, h115, h116, h113, h126, h127, ptrI_0, (by omega), (by omega), (by first | exact hq87 | exact rgs_w hq87 (by omega)), (by first | exact hq88 | exact rgs_w hq88 (by omega)), (by first | exact hq89 | exact rgs_w hq89 (by omega)), (by first | exact hq90 | exact rgs_w hq90 (by omega)), (by first | exact hq91 | exact rgs_w hq91 (by omega)), (by omega), (by exact hq92)⟩))
        · refine zz_iconst d_MO_compile_20 ?_
          refine ab_goto (tgt := 25) d_MO_compile_21 (by decide) ?_
          refine ab_putf (fs := mof m_thrown m_taped m_length m_out m_wide m_gathered m_sets m_ranges m_nodes m_at m_flags m_fault m_place m_numbered m_depth m_value m_isNot m_least0 m_most0 m_slot m_work m_got m_rowMany m_charAt m_charWide m_trail m_isMatch m_matchGroups m_allFrom m_allBefore m_founds m_pieces m_writtenMany m_templateWide m_tooMuch) f_MO_220 (Or.inl rfl) d_MO_compile_25 h80.2.2 (Nat.le_of_ble_eq_true rfl) (fun _ => ⟨rfl, rfl⟩) (h80.2.1 (by decide)) ?_
          obtain ⟨G125, eG125⟩ : ∃ z : ab_G, z = List.set G 80 (ab_ob 12 (mof 1 m_taped m_length m_out m_wide m_gathered m_sets m_ranges m_nodes m_at m_flags m_fault m_place m_numbered m_depth m_value m_isNot m_least0 m_most0 m_slot m_work m_got m_rowMany m_charAt m_charWide m_trail m_isMatch m_matchGroups m_allFrom m_allBefore m_founds m_pieces m_writtenMany m_templateWide m_tooMuch)) := ⟨_, rfl⟩
          have h84 := h84.keep h80 eG125 (by decide)
          have h87 := h87.keep h80 eG125 (by decide)
          have h88 := h88.keep h80 eG125 (by decide)
          have h93 := h93.keep h80 eG125 (by decide)
          have h81 := h81.keep h80 eG125 (by decide)
          have h82 := h82.keep h80 eG125 (by decide)
          have h91 := h91.keep h80 eG125 (by decide)
          have h92 := h92.keep h80 eG125 (by decide)
          have h110 := h110.keep h80 eG125 (by decide)
          have h111 := h111.keep h80 eG125 (by decide)
          have h118 := h118.keep h80 eG125 (by decide)
          have h119 := h119.keep h80 eG125 (by decide)
          have h120 := h120.keep h80 eG125 (by decide)
          have h121 := h121.keep h80 eG125 (by decide)
          have h122 := h122.keep h80 eG125 (by decide)
          have h123 := h123.keep h80 eG125 (by decide)
          have h124 := h124.keep h80 eG125 (by decide)
          have h117 := h117.keep h80 eG125 (by decide)
          have h125 := h125.keep h80 eG125 (by decide)
          have h133 := h133.keep h80 eG125 (by decide)
          have h128 := h128.keep h80 eG125 (by decide)
          have h129 := h129.keep h80 eG125 (by decide)
          have h130 := h130.keep h80 eG125 (by decide)
          have h131 := h131.keep h80 eG125 (by decide)
          have h132 := h132.keep h80 eG125 (by decide)
          have h112 := h112.keep h80 eG125 (by decide)
          have h114 := h114.keep h80 eG125 (by decide)
          have h115 := h115.keep h80 eG125 (by decide)
          have h116 := h116.keep h80 eG125 (by decide)
          have h113 := h113.keep h80 eG125 (by decide)
          have h126 := h126.keep h80 eG125 (by decide)
          have h127 := h127.keep h80 eG125 (by decide)
          have hst := (fx.rf (o := o) (S := [280]) (G := G)).wr h80 eG125 (List.mem_singleton.mpr rfl)
          have ptrI_0 := trI.fr hst ptrI_0 (by decide) (by decide) (by decide) (by decide) (by decide) (by decide) (by decide) (by decide) (by decide) (by decide) (by decide) (by decide) (by decide) (by decide) (by decide) (by decide) (by decide) (by decide)
          have hlen := (z_len eG125).trans hlen
          have hsl := (z_sl h80 eG125 rfl).trans hsl
          have hfr := hfr.wr h80 eG125 (by decide)
          have h80 := h80.kept eG125
          change ab_W _ _ _ (List.set G 80 (ab_ob 12 (mof 1 m_taped m_length m_out m_wide m_gathered m_sets m_ranges m_nodes m_at m_flags m_fault m_place m_numbered m_depth m_value m_isNot m_least0 m_most0 m_slot m_work m_got m_rowMany m_charAt m_charWide m_trail m_isMatch m_matchGroups m_allFrom m_allBefore m_founds m_pieces m_writtenMany m_templateWide m_tooMuch))) 28 [some (vR 80), some (vz sc), some (vz wi), none, none, none] [] _
          rw [← eG125]
          refine ab_aload_n d_MO_compile_28 rfl ?_
          refine ab_getf (fs := mof 1 m_taped m_length m_out m_wide m_gathered m_sets m_ranges m_nodes m_at m_flags m_fault m_place m_numbered m_depth m_value m_isNot m_least0 m_most0 m_slot m_work m_got m_rowMany m_charAt m_charWide m_trail m_isMatch m_matchGroups m_allFrom m_allBefore m_founds m_pieces m_writtenMany m_templateWide m_tooMuch) f_MO_220 d_MO_compile_29 h80.2.2 rfl ?_
          refine zz_if_le (tgt := 37) d_MO_compile_32 (by decide) (by decide) (fun c126 => absurd c126 (by decide)) (fun c126 => ?_)
          refine zz_iconst d_MO_compile_35 ?_
          refine zz_iret rfl d_MO_compile_36 ?_
          rw [hQ]; exact (Or.inl ⟨rfl, hfr, hlen, hsl, h80, h84, h87, h88, h93, h81, h82, h91, h92, h110, h111, h118, h119, h120, h121, h122, h123, h124, h117, h125, h133, h128, h129, h130, h131, h132, h112, h114, h115, h116, h113, h126, h127, ptrI_0, (by omega)⟩)
