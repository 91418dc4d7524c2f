set_option maxRecDepth 100000 in
set_option maxHeartbeats 4000000 in
theorem z_MO_readPart {X : ab_X} {d : Nat} {o : Nat → Nat} {G : ab_G} {m_thrown : Int} {m_taped : Int} {m_length : Int} {m_out : Int} {m_wide : Int} {m_gathered : Int} {m_sets : Int} {m_ranges : Int} {m_nodes : Int} {m_at : Int} {m_flags : Int} {m_fault : Int} {m_place : Int} {m_numbered : Int} {m_depth : Int} {m_value : Int} {m_isNot : Int} {m_least0 : Int} {m_most0 : Int} {m_slot : Int} {m_work : Int} {m_got : Int} {m_rowMany : Int} {m_charAt : Int} {m_charWide : Int} {m_trail : Int} {m_isMatch : Int} {m_matchGroups : Int} {m_allFrom : Int} {m_allBefore : Int} {m_founds : Int} {m_pieces : Int} {m_writtenMany : Int} {m_templateWide : Int} {m_tooMuch : Int} {A_tape : Int → Int} {LO : Int → Int} {HI : Int → Int} {MK : Int → Int} {RL : Int → Int} {RH : Int → Int} {NS : Int → Int} {NM : Int → Int} {rp : Int} {ls : Int} {SV : Int → Int → Prop} {ro : Sn} {vv : Sn} {a1_ : Int} {b1_ : Int} {c1_ : Int} {d1_ : Int} {e1_ : Int} {t1_ : List Fr} {ao1_ : Option Sn} {ro1_ : Sn} {ts1_ : List Fs} {na : Int → Int} {nl : Int → Int} (h80 : cc o G 80 280 (ab_ob 12 (mof m_thrown m_taped m_length m_out m_wide m_gathered m_sets m_ranges m_nodes m_at m_flags m_fault m_place m_numbered m_depth m_value m_isNot m_least0 m_most0 m_slot m_work m_got m_rowMany m_charAt m_charWide m_trail m_isMatch m_matchGroups m_allFrom m_allBefore m_founds m_pieces m_writtenMany m_templateWide m_tooMuch))) (h84 : cc o G 84 284 (za 2000 A_tape)) (h87 : cc o G 87 287 (za 9000 LO)) (h88 : cc o G 88 288 (za 9000 HI)) (h93 : cc o G 93 293 (zb 1200 MK)) (h81 : cc o G 81 281 (za 13 tbA)) (h82 : cc o G 82 282 (za 66 tbT)) (h91 : cc o G 91 291 (za 24000 RL)) (h92 : cc o G 92 292 (za 24000 RH)) (h110 : cc o G 110 310 (za 120 NS)) (h111 : cc o G 111 311 (za 10 NM)) (ptrI_0 : trI o G 0 m_nodes m_sets (m_depth + 1) (-1) 0 0 ((a1_, b1_, c1_, d1_, e1_) :: t1_) rp ls 0 SV ((ao1_, ro1_) :: ts1_) ro vv mnI RL RH m_ranges 0 0) (n18 : ab_n0 = 18) (cta : 0 ≤ m_taped ∧ m_taped ≤ 2000) (jtp : rgs A_tape 2000 0 255) (jmk : rgs MK 1200 0 1) (jrl : rgs RL 24000 0 1114111) (jrh : rgs RH 24000 0 1114111) (jns : rgs NS 120 0 255) (jnm : rgs NM 10 0 12) (cf : m_fault = 0) (cat : 0 ≤ m_at ∧ m_at < m_taped) (cpo : 0 ≤ m_nodes ∧ m_nodes + 2 * m_depth + 0 ≤ 2 * m_at ∧ 0 ≤ m_sets ∧ m_sets + 0 ≤ m_at ∧ 0 ≤ m_ranges ∧ m_ranges + 0 ≤ 12 * m_at ∧ 0 ≤ m_depth ∧ m_depth ≤ 30 ∧ 0 ≤ m_numbered ∧ m_numbered ≤ 9 ∧ -2147483648 ≤ m_flags ∧ m_flags ≤ 2147483647 ∧ -2147483648 ≤ m_value ∧ m_value ≤ 2147483647) (cfl : 0 ≤ m_flags ∧ m_flags ≤ 15) (crp : 0 ≤ rp ∧ rp ≤ 1) (jnj : nmJ NS NM A_tape na nl m_numbered) (hd : 8 ≤ d) : ab_F X d y_MO_readPart (.code y_MO_readPart b_MO_readPart 4 none) [vR 80] G (fun oc G2 => (∃ a2 : Int, ∃ v2 : Int, ∃ nt2 : Int, ∃ w2 : Int, ∃ g2 : Int, ∃ s2 : Int, ∃ r2 : Int, ∃ n2 : Int, ∃ fl2 : Int, ∃ nu2 : Int, ∃ d2 : Int, ∃ le2 : Int, ∃ mo2 : Int, ∃ f2 : Int, ∃ p2 : Int, ∃ LO2 : Int → Int, ∃ HI2 : Int → Int, ∃ MK2 : Int → Int, ∃ RL2 : Int → Int, ∃ RH2 : Int → Int, ∃ NS2 : Int → Int, ∃ NM2 : Int → Int, ∃ fr2 : List Fr, ∃ rp2 : Int, ∃ ls2 : Int, ∃ SV2 : Int → Int → Prop, ∃ FS2 : List Fs, ∃ ro2 : Sn, ∃ vv2 : Sn, ∃ na2 : Int → Int, ∃ nl2 : Int → Int, oc = .returned none ∧ fx o o [280, 287, 288, 293, 291, 292, 310, 311, 294, 295, 296, 297, 298, 299, 300, 301, 290, 289, 305, 306, 307, 308, 309, 302, 303, 304] G G2 ∧ G2.length = G.length ∧ ab_slots G2 = ab_slots G ∧ cc o G2 80 280 (ab_ob 12 (mof m_thrown m_taped m_length m_out w2 g2 s2 r2 n2 a2 fl2 f2 p2 nu2 d2 v2 nt2 le2 mo2 m_slot m_work m_got m_rowMany m_charAt m_charWide m_trail m_isMatch m_matchGroups m_allFrom m_allBefore m_founds m_pieces m_writtenMany m_templateWide m_tooMuch)) ∧ cc o G2 87 287 (za 9000 LO2) ∧ cc o G2 88 288 (za 9000 HI2) ∧ cc o G2 93 293 (zb 1200 MK2) ∧ cc o G2 91 291 (za 24000 RL2) ∧ cc o G2 92 292 (za 24000 RH2) ∧ cc o G2 110 310 (za 120 NS2) ∧ cc o G2 111 311 (za 10 NM2) ∧ trI o G2 0 n2 s2 (d2 + 1) (-1) 0 0 fr2 rp2 ls2 0 SV2 FS2 ro2 vv2 mnI RL2 RH2 r2 0 0 ∧ (f2 = 0 ∧ p2 = m_place ∧ m_at < a2 ∧ a2 ≤ m_taped ∧ 0 ≤ n2 ∧ n2 + 2 * d2 ≤ 2 * a2 ∧ 0 ≤ s2 ∧ s2 ≤ a2 ∧ 0 ≤ r2 ∧ r2 ≤ 12 * a2 ∧ 0 ≤ d2 ∧ d2 ≤ 30 ∧ 0 ≤ nu2 ∧ nu2 ≤ 9 ∧ -2147483648 ≤ fl2 ∧ fl2 ≤ 2147483647 ∧ -2147483648 ≤ v2 ∧ v2 ≤ 2147483647) ∧ (rgs MK2 1200 0 1) ∧ (rgs RL2 24000 0 1114111) ∧ (rgs RH2 24000 0 1114111) ∧ (rgs NS2 120 0 255) ∧ (rgs NM2 10 0 12) ∧ (0 ≤ rp2 ∧ rp2 ≤ 1) ∧ (nmJ NS2 NM2 A_tape na2 nl2 nu2) ∧ (stp A_tape m_taped (m_at, m_flags, m_numbered, na, nl, ((a1_, b1_, c1_, d1_, e1_) :: t1_), rp, ls) (a2, fl2, nu2, na2, nl2, fr2, rp2, ls2)) ∧ (stS A_tape m_taped (m_at, m_flags, m_numbered, na, nl, ((a1_, b1_, c1_, d1_, e1_) :: t1_), rp, ls) (((ao1_, ro1_) :: ts1_), ro, vv) (a2, fl2, nu2, na2, nl2, fr2, rp2, ls2) (FS2, ro2, vv2))) ∨ (∃ a2 : Int, ∃ v2 : Int, ∃ nt2 : Int, ∃ w2 : Int, ∃ g2 : Int, ∃ s2 : Int, ∃ r2 : Int, ∃ n2 : Int, ∃ fl2 : Int, ∃ nu2 : Int, ∃ d2 : Int, ∃ le2 : Int, ∃ mo2 : Int, ∃ f2 : Int, ∃ p2 : Int, ∃ LO2 : Int → Int, ∃ HI2 : Int → Int, ∃ MK2 : Int → Int, ∃ RL2 : Int → Int, ∃ RH2 : Int → Int, ∃ NS2 : Int → Int, ∃ NM2 : Int → Int, ∃ fr2 : List Fr, ∃ rp2 : Int, ∃ ls2 : Int, ∃ SV2 : Int → Int → Prop, ∃ FS2 : List Fs, ∃ ro2 : Sn, ∃ vv2 : Sn, oc = .returned none ∧ fx o o [280, 287, 288, 293, 291, 292, 310, 311, 294, 295, 296, 297, 298, 299, 300, 301, 290, 289, 305, 306, 307, 308, 309, 302, 303, 304] G G2 ∧ G2.length = G.length ∧ ab_slots G2 = ab_slots G ∧ cc o G2 80 280 (ab_ob 12 (mof m_thrown m_taped m_length m_out w2 g2 s2 r2 n2 a2 fl2 f2 p2 nu2 d2 v2 nt2 le2 mo2 m_slot m_work m_got m_rowMany m_charAt m_charWide m_trail m_isMatch m_matchGroups m_allFrom m_allBefore m_founds m_pieces m_writtenMany m_templateWide m_tooMuch)) ∧ cc o G2 87 287 (za 9000 LO2) ∧ cc o G2 88 288 (za 9000 HI2) ∧ cc o G2 93 293 (zb 1200 MK2) ∧ cc o G2 91 291 (za 24000 RL2) ∧ cc o G2 92 292 (za 24000 RH2) ∧ cc o G2 110 310 (za 120 NS2) ∧ cc o G2 111 311 (za 10 NM2) ∧ trI o G2 0 n2 s2 (d2 + 1) (-1) 0 0 fr2 rp2 ls2 0 SV2 FS2 ro2 vv2 mnI RL2 RH2 r2 0 0 ∧ (1 ≤ f2 ∧ f2 ≤ 14 ∧ 0 ≤ a2 ∧ a2 ≤ 4000 ∧ 0 ≤ n2 ∧ n2 ≤ 4200 ∧ 0 ≤ s2 ∧ s2 ≤ 2100 ∧ 0 ≤ r2 ∧ r2 ≤ 24000 ∧ 0 ≤ d2 ∧ d2 ≤ 30 ∧ 0 ≤ nu2 ∧ nu2 ≤ 9 ∧ -2147483648 ≤ fl2 ∧ fl2 ≤ 2147483647 ∧ -2147483648 ≤ v2 ∧ v2 ≤ 2147483647) ∧ (rgs MK2 1200 0 1) ∧ (rgs RL2 24000 0 1114111) ∧ (rgs RH2 24000 0 1114111) ∧ (rgs NS2 120 0 255) ∧ (rgs NM2 10 0 12) ∧ (stF A_tape m_taped (m_at, m_flags, m_numbered, na, nl, ((a1_, b1_, c1_, d1_, e1_) :: t1_), rp, ls) f2 p2))) := by
  refine ab_F_of (by decide +kernel) (Nat.le_of_ble_eq_true rfl) ?_
  obtain ⟨Q, hQ⟩ : ∃ z : Outcome → ab_G → Prop, z = (fun oc G2 => (∃ a2 : Int, ∃ v2 : Int, ∃ nt2 : Int, ∃ w2 : Int, ∃ g2 : Int, ∃ s2 : Int, ∃ r2 : Int, ∃ n2 : Int, ∃ fl2 : Int, ∃ nu2 : Int, ∃ d2 : Int, ∃ le2 : Int, ∃ mo2 : Int, ∃ f2 : Int, ∃ p2 : Int, ∃ LO2 : Int → Int, ∃ HI2 : Int → Int, ∃ MK2 : Int → Int, ∃ RL2 : Int → Int, ∃ RH2 : Int → Int, ∃ NS2 : Int → Int, ∃ NM2 : Int → Int, ∃ fr2 : List Fr, ∃ rp2 : Int, ∃ ls2 : Int, ∃ SV2 : Int → Int → Prop, ∃ FS2 : List Fs, ∃ ro2 : Sn, ∃ vv2 : Sn, ∃ na2 : Int → Int, ∃ nl2 : Int → Int, oc = .returned none ∧ fx o o [280, 287, 288, 293, 291, 292, 310, 311, 294, 295, 296, 297, 298, 299, 300, 301, 290, 289, 305, 306, 307, 308, 309, 302, 303, 304] G G2 ∧ G2.length = G.length ∧ ab_slots G2 = ab_slots G ∧ cc o G2 80 280 (ab_ob 12 (mof m_thrown m_taped m_length m_out w2 g2 s2 r2 n2 a2 fl2 f2 p2 nu2 d2 v2 nt2 le2 mo2 m_slot m_work m_got m_rowMany m_charAt m_charWide m_trail m_isMatch m_matchGroups m_allFrom m_allBefore m_founds m_pieces m_writtenMany m_templateWide m_tooMuch)) ∧ cc o G2 87 287 (za 9000 LO2) ∧ cc o G2 88 288 (za 9000 HI2) ∧ cc o G2 93 293 (zb 1200 MK2) ∧ cc o G2 91 291 (za 24000 RL2) ∧ cc o G2 92 292 (za 24000 RH2) ∧ cc o G2 110 310 (za 120 NS2) ∧ cc o G2 111 311 (za 10 NM2) ∧ trI o G2 0 n2 s2 (d2 + 1) (-1) 0 0 fr2 rp2 ls2 0 SV2 FS2 ro2 vv2 mnI RL2 RH2 r2 0 0 ∧ (f2 = 0 ∧ p2 = m_place ∧ m_at < a2 ∧ a2 ≤ m_taped ∧ 0 ≤ n2 ∧ n2 + 2 * d2 ≤ 2 * a2 ∧ 0 ≤ s2 ∧ s2 ≤ a2 ∧ 0 ≤ r2 ∧ r2 ≤ 12 * a2 ∧ 0 ≤ d2 ∧ d2 ≤ 30 ∧ 0 ≤ nu2 ∧ nu2 ≤ 9 ∧ -2147483648 ≤ fl2 ∧ fl2 ≤ 2147483647 ∧ -2147483648 ≤ v2 ∧ v2 ≤ 2147483647) ∧ (rgs MK2 1200 0 1) ∧ (rgs RL2 24000 0 1114111) ∧ (rgs RH2 24000 0 1114111) ∧ (rgs NS2 120 0 255) ∧ (rgs NM2 10 0 12) ∧ (0 ≤ rp2 ∧ rp2 ≤ 1) ∧ (nmJ NS2 NM2 A_tape na2 nl2 nu2) ∧ (stp A_tape m_taped (m_at, m_flags, m_numbered, na, nl, ((a1_, b1_, c1_, d1_, e1_) :: t1_), rp, ls) (a2, fl2, nu2, na2, nl2, fr2, rp2, ls2)) ∧ (stS A_tape m_taped (m_at, m_flags, m_numbered, na, nl, ((a1_, b1_, c1_, d1_, e1_) :: t1_), rp, ls) (((ao1_, ro1_) :: ts1_), ro, vv) (a2, fl2, nu2, na2, nl2, fr2, rp2, ls2) (FS2, ro2, vv2))) ∨ (∃ a2 : Int, ∃ v2 : Int, ∃ nt2 : Int, ∃ w2 : Int, ∃ g2 : Int, ∃ s2 : Int, ∃ r2 : Int, ∃ n2 : Int, ∃ fl2 : Int, ∃ nu2 : Int, ∃ d2 : Int, ∃ le2 : Int, ∃ mo2 : Int, ∃ f2 : Int, ∃ p2 : Int, ∃ LO2 : Int → Int, ∃ HI2 : Int → Int, ∃ MK2 : Int → Int, ∃ RL2 : Int → Int, ∃ RH2 : Int → Int, ∃ NS2 : Int → Int, ∃ NM2 : Int → Int, ∃ fr2 : List Fr, ∃ rp2 : Int, ∃ ls2 : Int, ∃ SV2 : Int → Int → Prop, ∃ FS2 : List Fs, ∃ ro2 : Sn, ∃ vv2 : Sn, oc = .returned none ∧ fx o o [280, 287, 288, 293, 291, 292, 310, 311, 294, 295, 296, 297, 298, 299, 300, 301, 290, 289, 305, 306, 307, 308, 309, 302, 303, 304] G G2 ∧ G2.length = G.length ∧ ab_slots G2 = ab_slots G ∧ cc o G2 80 280 (ab_ob 12 (mof m_thrown m_taped m_length m_out w2 g2 s2 r2 n2 a2 fl2 f2 p2 nu2 d2 v2 nt2 le2 mo2 m_slot m_work m_got m_rowMany m_charAt m_charWide m_trail m_isMatch m_matchGroups m_allFrom m_allBefore m_founds m_pieces m_writtenMany m_templateWide m_tooMuch)) ∧ cc o G2 87 287 (za 9000 LO2) ∧ cc o G2 88 288 (za 9000 HI2) ∧ cc o G2 93 293 (zb 1200 MK2) ∧ cc o G2 91 291 (za 24000 RL2) ∧ cc o G2 92 292 (za 24000 RH2) ∧ cc o G2 110 310 (za 120 NS2) ∧ cc o G2 111 311 (za 10 NM2) ∧ trI o G2 0 n2 s2 (d2 + 1) (-1) 0 0 fr2 rp2 ls2 0 SV2 FS2 ro2 vv2 mnI RL2 RH2 r2 0 0 ∧ (1 ≤ f2 ∧ f2 ≤ 14 ∧ 0 ≤ a2 ∧ a2 ≤ 4000 ∧ 0 ≤ n2 ∧ n2 ≤ 4200 ∧ 0 ≤ s2 ∧ s2 ≤ 2100 ∧ 0 ≤ r2 ∧ r2 ≤ 24000 ∧ 0 ≤ d2 ∧ d2 ≤ 30 ∧ 0 ≤ nu2 ∧ nu2 ≤ 9 ∧ -2147483648 ≤ fl2 ∧ fl2 ≤ 2147483647 ∧ -2147483648 ≤ v2 ∧ v2 ≤ 2147483647) ∧ (rgs MK2 1200 0 1) ∧ (rgs RL2 24000 0 1114111) ∧ (rgs RH2 24000 0 1114111) ∧ (rgs NS2 120 0 255) ∧ (rgs NM2 10 0 12) ∧ (stF A_tape m_taped (m_at, m_flags, m_numbered, na, nl, ((a1_, b1_, c1_, d1_, e1_) :: t1_), rp, ls) f2 p2))) := ⟨_, rfl⟩
  rw [← hQ]
  change ab_W X (ab_pl y_MO_readPart b_MO_readPart 4 none) d G 0 [some (vR 80), none, none, none] [] Q
  have hfr : fx o o [280, 287, 288, 293, 291, 292, 310, 311, 294, 295, 296, 297, 298, 299, 300, 301, 290, 289, 305, 306, 307, 308, 309, 302, 303, 304] G G := fx.rf
  have hlen : G.length = G.length := rfl
  have hsl : ab_slots G = ab_slots G := rfl
  refine ab_aload_n d_MO_readPart_0 rfl ?_
  refine zz_iconst d_MO_readPart_1 ?_
  refine ab_callV (d' := d - 1) (as := [vz 0]) (st := []) (r := _) (z_MO_here (o := o) (m_thrown := m_thrown) (m_taped := m_taped) (m_length := m_length) (m_out := m_out) (m_wide := m_wide) (m_gathered := m_gathered) (m_sets := m_sets) (m_ranges := m_ranges) (m_nodes := m_nodes) (m_at := m_at) (m_flags := m_flags) (m_fault := m_fault) (m_place := m_place) (m_numbered := m_numbered) (m_depth := m_depth) (m_value := m_value) (m_isNot := m_isNot) (m_least0 := m_least0) (m_most0 := m_most0) (m_slot := m_slot) (m_work := m_work) (m_got := m_got) (m_rowMany := m_rowMany) (m_charAt := m_charAt) (m_charWide := m_charWide) (m_trail := m_trail) (m_isMatch := m_isMatch) (m_matchGroups := m_matchGroups) (m_allFrom := m_allFrom) (m_allBefore := m_allBefore) (m_founds := m_founds) (m_pieces := m_pieces) (m_writtenMany := m_writtenMany) (m_templateWide := m_templateWide) (m_tooMuch := m_tooMuch) (A_tape := A_tape) (k := 0) (qh := m_at) h80 h84 (by omega) (by omega) jtp (by omega) (by omega)) (fun oc G2 h => by rcases h with ⟨h, _⟩ | ⟨h, _⟩ <;> exact ⟨_, h⟩) (by omega) m_MO_here ml_MO_297 im_MO_here se_MO_here c_MO h80.2.2 (Nat.le_of_ble_eq_true rfl) d_MO_readPart_2 rfl ?_
  intro v G1 hq
  rcases hq with ⟨hv, hGe, hq2⟩ | ⟨hv, hGe, hq3, hq4⟩
  · cases hv
    rw [hGe]
    change ab_W _ _ _ G 5 [some (vR 80), none, none, none] [vz (tpk A_tape m_taped m_at)] _
    refine ab_istore_n d_MO_readPart_5 (Nat.le_of_ble_eq_true rfl) (Nat.le_of_ble_eq_true rfl) rfl ?_
    change ab_W _ _ _ G 6 [some (vR 80), some (vz (tpk A_tape m_taped m_at)), none, none] [] _
    refine ab_iload_n d_MO_readPart_6 rfl ?_
    by_cases c5 : (tpk A_tape m_taped m_at) = 36
    · refine zz_lookup (off := 186) (tgt := 193) d_MO_readPart_7 (by decide) (by omega) (by rw [c5]; decide) (by decide) ?_
      obtain ⟨K, O, Fi, Be, Le, Mo, Z, LZ, SM, SA, QF, QL, AF, AL, SD, OA, OF, ON, h94, h95, h96, h97, h98, h99, h100, h101, h90, h89, h105, h106, h107, h108, h109, h102, h103, h104, jk, jo, jfi, jbe, jle, jmo, jz, jlz, jsm, jsa, jqf, jql, jaf, jal, jsd, joa, jof, jon, jt, cnd, cre, crs, crz, ck5, ck6, ck7, jss, jsv⟩ := ptrI_0
      refine ab_aload_n d_MO_readPart_193 rfl ?_
      refine ab_aload_n d_MO_readPart_194 rfl ?_
      refine zz_iconst d_MO_readPart_195 ?_
      refine ab_aload_n d_MO_readPart_196 rfl ?_
      refine zz_iconst d_MO_readPart_197 ?_
      refine ab_callV (d' := d - 1) (as := [vz 2]) (st := [vz 3, vR 80, vR 80]) (r := _) (z2_MO_has (o := o) (m_thrown := m_thrown) (m_taped := m_taped) (m_length := m_length) (m_out := m_out) (m_wide := m_wide) (m_gathered := m_gathered) (m_sets := m_sets) (m_ranges := m_ranges) (m_nodes := m_nodes) (m_at := m_at) (m_flags := m_flags) (m_fault := m_fault) (m_place := m_place) (m_numbered := m_numbered) (m_depth := m_depth) (m_value := m_value) (m_isNot := m_isNot) (m_least0 := m_least0) (m_most0 := m_most0) (m_slot := m_slot) (m_work := m_work) (m_got := m_got) (m_rowMany := m_rowMany) (m_charAt := m_charAt) (m_charWide := m_charWide) (m_trail := m_trail) (m_isMatch := m_isMatch) (m_matchGroups := m_matchGroups) (m_allFrom := m_allFrom) (m_allBefore := m_allBefore) (m_founds := m_founds) (m_pieces := m_pieces) (m_writtenMany := m_writtenMany) (m_templateWide := m_templateWide) (m_tooMuch := m_tooMuch) h80 (by omega)) (fun oc G2 h => by rcases h with ⟨_, h, _⟩ <;> exact ⟨_, h⟩) (by omega) m_MO_has ml_MO_355 im_MO_has se_MO_has c_MO h80.2.2 (Nat.le_of_ble_eq_true rfl) d_MO_readPart_198 rfl ?_
      intro v G6 hq
      rcases hq with ⟨v7, hv, hGe, hq8, hq9⟩
      cases hv
      rw [hGe]
      change ab_W _ _ _ G 201 [some (vR 80), some (vz (tpk A_tape m_taped m_at)), none, none] [vz v7, vz 3, vR 80, vR 80] _
      refine zz_if_eq (tgt := 208) d_MO_readPart_201 (by decide) (by omega) (fun c10 => ?_) (fun c10 => ?_)
      · refine zz_iconst d_MO_readPart_208 ?_
        refine zz_lconst d_MO_readPart_209 ?_
        change ab_W _ _ _ G 210 [some (vR 80), some (vz (tpk A_tape m_taped m_at)), none, none] [vj 1, vz 1, vz 3, vR 80, vR 80] _
        refine ab_callV (d' := d - 1) (as := [vz 3, vz 1, vj 1]) (st := [vR 80]) (r := _) (z_MO_node (o := o) (m_thrown := m_thrown) (m_taped := m_taped) (m_length := m_length) (m_out := m_out) (m_wide := m_wide) (m_gathered := m_gathered) (m_sets := m_sets) (m_ranges := m_ranges) (m_nodes := m_nodes) (m_at := m_at) (m_flags := m_flags) (m_fault := m_fault) (m_place := m_place) (m_numbered := m_numbered) (m_depth := m_depth) (m_value := m_value) (m_isNot := m_isNot) (m_least0 := m_least0) (m_most0 := m_most0) (m_slot := m_slot) (m_work := m_work) (m_got := m_got) (m_rowMany := m_rowMany) (m_charAt := m_charAt) (m_charWide := m_charWide) (m_trail := m_trail) (m_isMatch := m_isMatch) (m_matchGroups := m_matchGroups) (m_allFrom := m_allFrom) (m_allBefore := m_allBefore) (m_founds := m_founds) (m_pieces := m_pieces) (m_writtenMany := m_writtenMany) (m_templateWide := m_templateWide) (m_tooMuch := m_tooMuch) (K := K) (O := O) (Fi := Fi) (Be := Be) (Z := Z) (k := 3) (w := 1) (zs := 1) h80 h94 h95 h96 h97 h100 (by omega) (by omega)) (fun oc G2 h => by rcases h with ⟨h, _⟩ <;> exact ⟨_, h⟩) (by omega) m_MO_node ml_MO_269 im_MO_node se_MO_node c_MO h80.2.2 (Nat.le_of_ble_eq_true rfl) d_MO_readPart_210 rfl ?_
        intro v G11 hq
        rcases hq with ⟨hv, hfk, hlk, hsk, hN80, hN94, hN95, hN96, hN97, hN100⟩
        cases hv
        have h84 := hfk.get h84 (by decide)
        have h87 := hfk.get h87 (by decide)
        have h88 := hfk.get h88 (by decide)
        have h93 := hfk.get h93 (by decide)
        have h81 := hfk.get h81 (by decide)
        have h82 := hfk.get h82 (by decide)
        have h91 := hfk.get h91 (by decide)
        have h92 := hfk.get h92 (by decide)
        have h110 := hfk.get h110 (by decide)
        have h111 := hfk.get h111 (by decide)
        have h98 := hfk.get h98 (by decide)
        have h99 := hfk.get h99 (by decide)
        have h101 := hfk.get h101 (by decide)
        have h90 := hfk.get h90 (by decide)
        have h89 := hfk.get h89 (by decide)
        have h105 := hfk.get h105 (by decide)
        have h106 := hfk.get h106 (by decide)
        have h107 := hfk.get h107 (by decide)
        have h108 := hfk.get h108 (by decide)
        have h109 := hfk.get h109 (by decide)
        have h102 := hfk.get h102 (by decide)
        have h103 := hfk.get h103 (by decide)
        have h104 := hfk.get h104 (by decide)
        have hfr := hfr.tr hfk (by decide)
        have hlen := hlk.trans hlen
        have hsl := hsk.trans hsl
        have h80 := hN80
        have h94 := hN94
        have h95 := hN95
        have h96 := hN96
        have h97 := hN97
        have h100 := hN100
        change ab_W _ _ _ G11 213 [some (vR 80), some (vz (tpk A_tape m_taped m_at)), none, none] [vz m_nodes, vR 80] _
        have ptrI_0 : trI o G11 0 (m_nodes + 1) m_sets (m_depth + 1) m_nodes 0 6 ((a1_, b1_, c1_, d1_, e1_) :: t1_) rp ls 1 SV ((ao1_, ro1_) :: ts1_) ro vv (mnQ (asq 1)) RL RH m_ranges 0 0 := ⟨(zu K m_nodes 3), (zu O m_nodes 1), (zu Fi m_nodes (-1)), (zu Be m_nodes (-1)), Le, Mo, (zu Z m_nodes 1), LZ, SM, SA, QF, QL, AF, AL, SD, OA, OF, ON, h94, h95, h96, h97, h98, h99, h100, h101, h90, h89, h105, h106, h107, h108, h109, h102, h103, h104, (rgs_zu jk (by omega)), (rgs_zu jo (by omega)), (rgs_zu jfi (by omega)), (rgs_zu jbe (by omega)), jle, jmo, (rgs_zu jz (by omega)), jlz, jsm, jsa, jqf, jql, jaf, jal, jsd, joa, jof, jon, (rtk_leaf jt (by omega) (Or.inr (Or.inr (Or.inr ⟨rfl, rfl, by omega, by omega⟩))) (Or.inr (Or.inr (Or.inr ⟨rfl, rfl⟩)))), (by omega), (fun h => absurd h (by decide)), (fun h => absurd h (by decide)), (fun h => absurd h (by decide)), (fun h => absurd h (by decide)), (fun _ => by rw [zu_self]; decide), (fun h => absurd h (by decide)), jss, jsv⟩
        refine zz_iconst d_MO_readPart_213 ?_
        refine ab_callV (d' := d - 1) (as := [vz m_nodes, vz 1]) (st := []) (r := _) (z1_MO_part (o := o) (m_thrown := m_thrown) (m_taped := m_taped) (m_length := m_length) (m_out := m_out) (m_wide := m_wide) (m_gathered := m_gathered) (m_sets := m_sets) (m_ranges := m_ranges) (m_nodes := (m_nodes + 1)) (m_at := m_at) (m_flags := m_flags) (m_fault := m_fault) (m_place := m_place) (m_numbered := m_numbered) (m_depth := m_depth) (m_value := m_value) (m_isNot := m_isNot) (m_least0 := m_least0) (m_most0 := m_most0) (m_slot := m_slot) (m_work := m_work) (m_got := m_got) (m_rowMany := m_rowMany) (m_charAt := m_charAt) (m_charWide := m_charWide) (m_trail := m_trail) (m_isMatch := m_isMatch) (m_matchGroups := m_matchGroups) (m_allFrom := m_allFrom) (m_allBefore := m_allBefore) (m_founds := m_founds) (m_pieces := m_pieces) (m_writtenMany := m_writtenMany) (m_templateWide := m_templateWide) (m_tooMuch := m_tooMuch) (x := m_nodes) (dh := 0) (rp := rp) (ls := ls) (dz := 1) (SV := SV) (ro := ro) (vv := vv) (dv := (mnQ (asq 1))) (a1_ := a1_) (b1_ := b1_) (c1_ := c1_) (d1_ := d1_) (e1_ := e1_) (nu9 := 0) (fo9 := 0) (t1_ := t1_) (ao1_ := ao1_) (ro1_ := ro1_) (ts1_ := ts1_) (RL := RL) (RH := RH) h80 ptrI_0 (by omega) (by omega) (by omega) (by omega)) (fun oc G2 h => by rcases h with ⟨h, _⟩ <;> exact ⟨_, h⟩) (by omega) m_MO_part ml_MO_375 im_MO_part se_MO_part c_MO h80.2.2 (Nat.le_of_ble_eq_true rfl) d_MO_readPart_214 rfl ?_
        intro v G12 hq
        rcases hq with ⟨hv, hfk, hlk, hsk, pNtrI_0⟩
        cases hv
        have h80 := hfk.get h80 (by decide)
        have h84 := hfk.get h84 (by decide)
        have h87 := hfk.get h87 (by decide)
        have h88 := hfk.get h88 (by decide)
        have h93 := hfk.get h93 (by decide)
        have h81 := hfk.get h81 (by decide)
        have h82 := hfk.get h82 (by decide)
        have h91 := hfk.get h91 (by decide)
        have h92 := hfk.get h92 (by decide)
        have h110 := hfk.get h110 (by decide)
        have h111 := hfk.get h111 (by decide)
        have ptrI_0 := pNtrI_0
        have hfr := hfr.tr hfk (by decide)
        have hlen := hlk.trans hlen
        have hsl := hsk.trans hsl
        change ab_W _ _ _ G12 217 [some (vR 80), some (vz (tpk A_tape m_taped m_at)), none, none] [] _
        refine ab_aload_n d_MO_readPart_217 rfl ?_
        refine ab_dup d_MO_readPart_218 rfl ?_
        refine ab_getf (fs := mof m_thrown m_taped m_length m_out m_wide m_gathered m_sets m_ranges (m_nodes + 1) m_at m_flags m_fault m_place m_numbered m_depth m_value m_isNot m_least0 m_most0 m_slot m_work m_got m_rowMany m_charAt m_charWide m_trail m_isMatch m_matchGroups m_allFrom m_allBefore m_founds m_pieces m_writtenMany m_templateWide m_tooMuch) f_MO_279 d_MO_readPart_219 h80.2.2 rfl ?_
        refine zz_iconst d_MO_readPart_222 ?_
        refine zz_iadd d_MO_readPart_223 ?_
        refine ab_putf (fs := mof m_thrown m_taped m_length m_out m_wide m_gathered m_sets m_ranges (m_nodes + 1) m_at m_flags m_fault m_place m_numbered m_depth m_value m_isNot m_least0 m_most0 m_slot m_work m_got m_rowMany m_charAt m_charWide m_trail m_isMatch m_matchGroups m_allFrom m_allBefore m_founds m_pieces m_writtenMany m_templateWide m_tooMuch) f_MO_279 (Or.inl rfl) d_MO_readPart_224 h80.2.2 (Nat.le_of_ble_eq_true rfl) (fun _ => ⟨rfl, rfl⟩) (h80.2.1 (by decide)) ?_
        obtain ⟨G13, eG13⟩ : ∃ z : ab_G, z = List.set G12 80 (ab_ob 12 (mof m_thrown m_taped m_length m_out m_wide m_gathered m_sets m_ranges (m_nodes + 1) (m_at + 1) m_flags m_fault m_place m_numbered m_depth m_value m_isNot m_least0 m_most0 m_slot m_work m_got m_rowMany m_charAt m_charWide m_trail m_isMatch m_matchGroups m_allFrom m_allBefore m_founds m_pieces m_writtenMany m_templateWide m_tooMuch)) := ⟨_, rfl⟩
        have h84 := h84.keep h80 eG13 (by decide)
        have h87 := h87.keep h80 eG13 (by decide)
        have h88 := h88.keep h80 eG13 (by decide)
        have h93 := h93.keep h80 eG13 (by decide)
        have h81 := h81.keep h80 eG13 (by decide)
        have h82 := h82.keep h80 eG13 (by decide)
        have h91 := h91.keep h80 eG13 (by decide)
        have h92 := h92.keep h80 eG13 (by decide)
        have h110 := h110.keep h80 eG13 (by decide)
        have h111 := h111.keep h80 eG13 (by decide)
        have hst := (fx.rf (o := o) (S := [280]) (G := G12)).wr h80 eG13 (List.mem_singleton.mpr rfl)
        have ptrI_0 := trI.fr hst ptrI_0 (by decide) (by decide) (by decide) (by decide) (by decide) (by decide) (by decide) (by decide) (by decide) (by decide) (by decide) (by decide) (by decide) (by decide) (by decide) (by decide) (by decide) (by decide)
        have hlen := (z_len eG13).trans hlen
        have hsl := (z_sl h80 eG13 rfl).trans hsl
        have hfr := hfr.wr h80 eG13 (by decide)
        have h80 := h80.kept eG13
        change ab_W _ _ _ (List.set G12 80 (ab_ob 12 (mof m_thrown m_taped m_length m_out m_wide m_gathered m_sets m_ranges (m_nodes + 1) (m_at + 1) m_flags m_fault m_place m_numbered m_depth m_value m_isNot m_least0 m_most0 m_slot m_work m_got m_rowMany m_charAt m_charWide m_trail m_isMatch m_matchGroups m_allFrom m_allBefore m_founds m_pieces m_writtenMany m_templateWide m_tooMuch))) 227 [some (vR 80), some (vz (tpk A_tape m_taped m_at)), none, none] [] _
        rw [← eG13]
        refine ab_goto (tgt := 312) d_MO_readPart_227 (by decide) ?_
        refine ab_vret rfl d_MO_readPart_312 ?_
        rw [hQ]; exact (Or.inl ⟨_, _, _, _, _, _, _, _, _, _, _, _, _, _, _, _, _, _, _, _, _, _, ((a1_, b1_, c1_, d1_, (e1_ + 1)) :: t1_), 1, 1, SV, ((ao1_, (mnC ro1_ (mnQ (asq 1)))) :: ts1_), ro1_, (mnQ (asq 1)), na, nl, rfl, hfr, hlen, hsl, h80, h87, h88, h93, h91, h92, h110, h111, ptrI_0, (by omega), (by first | exact jmk | exact rgs_w jmk (by omega)), (by first | exact jrl | exact rgs_w jrl (by omega)), (by first | exact jrh | exact rgs_w jrh (by omega)), (by first | exact jns | exact rgs_w jns (by omega)), (by first | exact jnm | exact rgs_w jnm (by omega)), (by omega), (by exact jnj), (by exact stp_leaf (Or.inr (Or.inr (Or.inr (Or.inr (Or.inl ⟨by omega, by omega, rfl⟩)))))), (by exact ss_leaf (Or.inr (Or.inr (Or.inr (Or.inr (Or.inr (Or.inl ⟨by omega, by omega, by rw [show m_flags / 2 % 2 = 0 by omega]; exact congrArg mnQ (by decide)⟩)))))))⟩)
      · refine zz_iconst d_MO_readPart_204 ?_
        refine ab_goto (tgt := 209) d_MO_readPart_205 (by decide) ?_
        refine zz_lconst d_MO_readPart_209 ?_
        change ab_W _ _ _ G 210 [some (vR 80), some (vz (tpk A_tape m_taped m_at)), none, none] [vj 1, vz 5, vz 3, vR 80, vR 80] _
        refine ab_callV (d' := d - 1) (as := [vz 3, vz 5, vj 1]) (st := [vR 80]) (r := _) (z_MO_node (o := o) (m_thrown := m_thrown) (m_taped := m_taped) (m_length := m_length) (m_out := m_out) (m_wide := m_wide) (m_gathered := m_gathered) (m_sets := m_sets) (m_ranges := m_ranges) (m_nodes := m_nodes) (m_at := m_at) (m_flags := m_flags) (m_fault := m_fault) (m_place := m_place) (m_numbered := m_numbered) (m_depth := m_depth) (m_value := m_value) (m_isNot := m_isNot) (m_least0 := m_least0) (m_most0 := m_most0) (m_slot := m_slot) (m_work := m_work) (m_got := m_got) (m_rowMany := m_rowMany) (m_charAt := m_charAt) (m_charWide := m_charWide) (m_trail := m_trail) (m_isMatch := m_isMatch) (m_matchGroups := m_matchGroups) (m_allFrom := m_allFrom) (m_allBefore := m_allBefore) (m_founds := m_founds) (m_pieces := m_pieces) (m_writtenMany := m_writtenMany) (m_templateWide := m_templateWide) (m_tooMuch := m_tooMuch) (K := K) (O := O) (Fi := Fi) (Be := Be) (Z := Z) (k := 3) (w := 5) (zs := 1) h80 h94 h95 h96 h97 h100 (by omega) (by omega)) (fun oc G2 h => by rcases h with ⟨h, _⟩ <;> exact ⟨_, h⟩) (by omega) m_MO_node ml_MO_269 im_MO_node se_MO_node c_MO h80.2.2 (Nat.le_of_ble_eq_true rfl) d_MO_readPart_210 rfl ?_
        intro v G14 hq
        rcases hq with ⟨hv, hfk, hlk, hsk, hN80, hN94, hN95, hN96, hN97, hN100⟩
        cases hv
        have h84 := hfk.get h84 (by decide)
        have h87 := hfk.get h87 (by decide)
        have h88 := hfk.get h88 (by decide)
        have h93 := hfk.get h93 (by decide)
        have h81 := hfk.get h81 (by decide)
        have h82 := hfk.get h82 (by decide)
        have h91 := hfk.get h91 (by decide)
        have h92 := hfk.get h92 (by decide)
        have h110 := hfk.get h110 (by decide)
        have h111 := hfk.get h111 (by decide)
        have h98 := hfk.get h98 (by decide)
        have h99 := hfk.get h99 (by decide)
        have h101 := hfk.get h101 (by decide)
        have h90 := hfk.get h90 (by decide)
        have h89 := hfk.get h89 (by decide)
        have h105 := hfk.get h105 (by decide)
        have h106 := hfk.get h106 (by decide)
        have h107 := hfk.get h107 (by decide)
        have h108 := hfk.get h108 (by decide)
        have h109 := hfk.get h109 (by decide)
        have h102 := hfk.get h102 (by decide)
        have h103 := hfk.get h103 (by decide)
        have h104 := hfk.get h104 (by decide)
        have hfr := hfr.tr hfk (by decide)
        have hlen := hlk.trans hlen
        have hsl := hsk.trans hsl
        have h80 := hN80
        have h94 := hN94
        have h95 := hN95
        have h96 := hN96
        have h97 := hN97
        have h100 := hN100
        change ab_W _ _ _ G14 213 [some (vR 80), some (vz (tpk A_tape m_taped m_at)), none, none] [vz m_nodes, vR 80] _
        have ptrI_0 : trI o G14 0 (m_nodes + 1) m_sets (m_depth + 1) m_nodes 0 6 ((a1_, b1_, c1_, d1_, e1_) :: t1_) rp ls 1 SV ((ao1_, ro1_) :: ts1_) ro vv (mnQ (asq 5)) RL RH m_ranges 0 0 := ⟨(zu K m_nodes 3), (zu O m_nodes 5), (zu Fi m_nodes (-1)), (zu Be m_nodes (-1)), Le, Mo, (zu Z m_nodes 1), LZ, SM, SA, QF, QL, AF, AL, SD, OA, OF, ON, h94, h95, h96, h97, h98, h99, h100, h101, h90, h89, h105, h106, h107, h108, h109, h102, h103, h104, (rgs_zu jk (by omega)), (rgs_zu jo (by omega)), (rgs_zu jfi (by omega)), (rgs_zu jbe (by omega)), jle, jmo, (rgs_zu jz (by omega)), jlz, jsm, jsa, jqf, jql, jaf, jal, jsd, joa, jof, jon, (rtk_leaf jt (by omega) (Or.inr (Or.inr (Or.inr ⟨rfl, rfl, by omega, by omega⟩))) (Or.inr (Or.inr (Or.inr ⟨rfl, rfl⟩)))), (by omega), (fun h => absurd h (by decide)), (fun h => absurd h (by decide)), (fun h => absurd h (by decide)), (fun h => absurd h (by decide)), (fun _ => by rw [zu_self]; decide), (fun h => absurd h (by decide)), jss, jsv⟩
        refine zz_iconst d_MO_readPart_213 ?_
        refine ab_callV (d' := d - 1) (as := [vz m_nodes, vz 1]) (st := []) (r := _) (z1_MO_part (o := o) (m_thrown := m_thrown) (m_taped := m_taped) (m_length := m_length) (m_out := m_out) (m_wide := m_wide) (m_gathered := m_gathered) (m_sets := m_sets) (m_ranges := m_ranges) (m_nodes := (m_nodes + 1)) (m_at := m_at) (m_flags := m_flags) (m_fault := m_fault) (m_place := m_place) (m_numbered := m_numbered) (m_depth := m_depth) (m_value := m_value) (m_isNot := m_isNot) (m_least0 := m_least0) (m_most0 := m_most0) (m_slot := m_slot) (m_work := m_work) (m_got := m_got) (m_rowMany := m_rowMany) (m_charAt := m_charAt) (m_charWide := m_charWide) (m_trail := m_trail) (m_isMatch := m_isMatch) (m_matchGroups := m_matchGroups) (m_allFrom := m_allFrom) (m_allBefore := m_allBefore) (m_founds := m_founds) (m_pieces := m_pieces) (m_writtenMany := m_writtenMany) (m_templateWide := m_templateWide) (m_tooMuch := m_tooMuch) (x := m_nodes) (dh := 0) (rp := rp) (ls := ls) (dz := 1) (SV := SV) (ro := ro) (vv := vv) (dv := (mnQ (asq 5))) (a1_ := a1_) (b1_ := b1_) (c1_ := c1_) (d1_ := d1_) (e1_ := e1_) (nu9 := 0) (fo9 := 0) (t1_ := t1_) (ao1_ := ao1_) (ro1_ := ro1_) (ts1_ := ts1_) (RL := RL) (RH := RH) h80 ptrI_0 (by omega) (by omega) (by omega) (by omega)) (fun oc G2 h => by rcases h with ⟨h, _⟩ <;> exact ⟨_, h⟩) (by omega) m_MO_part ml_MO_375 im_MO_part se_MO_part c_MO h80.2.2 (Nat.le_of_ble_eq_true rfl) d_MO_readPart_214 rfl ?_
        intro v G15 hq
        rcases hq with ⟨hv, hfk, hlk, hsk, pNtrI_0⟩
        cases hv
        have h80 := hfk.get h80 (by decide)
        have h84 := hfk.get h84 (by decide)
        have h87 := hfk.get h87 (by decide)
        have h88 := hfk.get h88 (by decide)
        have h93 := hfk.get h93 (by decide)
        have h81 := hfk.get h81 (by decide)
        have h82 := hfk.get h82 (by decide)
        have h91 := hfk.get h91 (by decide)
        have h92 := hfk.get h92 (by decide)
        have h110 := hfk.get h110 (by decide)
        have h111 := hfk.get h111 (by decide)
        have ptrI_0 := pNtrI_0
        have hfr := hfr.tr hfk (by decide)
        have hlen := hlk.trans hlen
        have hsl := hsk.trans hsl
        change ab_W _ _ _ G15 217 [some (vR 80), some (vz (tpk A_tape m_taped m_at)), none, none] [] _
        refine ab_aload_n d_MO_readPart_217 rfl ?_
        refine ab_dup d_MO_readPart_218 rfl ?_
        refine ab_getf (fs := mof m_thrown m_taped m_length m_out m_wide m_gathered m_sets m_ranges (m_nodes + 1) m_at m_flags m_fault m_place m_numbered m_depth m_value m_isNot m_least0 m_most0 m_slot m_work m_got m_rowMany m_charAt m_charWide m_trail m_isMatch m_matchGroups m_allFrom m_allBefore m_founds m_pieces m_writtenMany m_templateWide m_tooMuch) f_MO_279 d_MO_readPart_219 h80.2.2 rfl ?_
        refine zz_iconst d_MO_readPart_222 ?_
        refine zz_iadd d_MO_readPart_223 ?_
        refine ab_putf (fs := mof m_thrown m_taped m_length m_out m_wide m_gathered m_sets m_ranges (m_nodes + 1) m_at m_flags m_fault m_place m_numbered m_depth m_value m_isNot m_least0 m_most0 m_slot m_work m_got m_rowMany m_charAt m_charWide m_trail m_isMatch m_matchGroups m_allFrom m_allBefore m_founds m_pieces m_writtenMany m_templateWide m_tooMuch) f_MO_279 (Or.inl rfl) d_MO_readPart_224 h80.2.2 (Nat.le_of_ble_eq_true rfl) (fun _ => ⟨rfl, rfl⟩) (h80.2.1 (by decide)) ?_
        obtain ⟨G16, eG16⟩ : ∃ z : ab_G, z = List.set G15 80 (ab_ob 12 (mof m_thrown m_taped m_length m_out m_wide m_gathered m_sets m_ranges (m_nodes + 1) (m_at + 1) m_flags m_fault m_place m_numbered m_depth m_value m_isNot m_least0 m_most0 m_slot m_work m_got m_rowMany m_charAt m_charWide m_trail m_isMatch m_matchGroups m_allFrom m_allBefore m_founds m_pieces m_writtenMany m_templateWide m_tooMuch)) := ⟨_, rfl⟩
        have h84 := h84.keep h80 eG16 (by decide)
        have h87 := h87.keep h80 eG16 (by decide)
        have h88 := h88.keep h80 eG16 (by decide)
        have h93 := h93.keep h80 eG16 (by decide)
        have h81 := h81.keep h80 eG16 (by decide)
        have h82 := h82.keep h80 eG16 (by decide)
        have h91 := h91.keep h80 eG16 (by decide)
        have h92 := h92.keep h80 eG16 (by decide)
        have h110 := h110.keep h80 eG16 (by decide)
        have h111 := h111.keep h80 eG16 (by decide)
        have hst := (fx.rf (o := o) (S := [280]) (G := G15)).wr h80 eG16 (List.mem_singleton.mpr rfl)
        have ptrI_0 := trI.fr hst ptrI_0 (by decide) (by decide) (by decide) (by decide) (by decide) (by decide) (by decide) (by decide) (by decide) (by decide) (by decide) (by decide) (by decide) (by decide) (by decide) (by decide) (by decide) (by decide)
        have hlen := (z_len eG16).trans hlen
        have hsl := (z_sl h80 eG16 rfl).trans hsl
        have hfr := hfr.wr h80 eG16 (by decide)
        have h80 := h80.kept eG16
        change ab_W _ _ _ (List.set G15 80 (ab_ob 12 (mof m_thrown m_taped m_length m_out m_wide m_gathered m_sets m_ranges (m_nodes + 1) (m_at + 1) m_flags m_fault m_place m_numbered m_depth m_value m_isNot m_least0 m_most0 m_slot m_work m_got m_rowMany m_charAt m_charWide m_trail m_isMatch m_matchGroups m_allFrom m_allBefore m_founds m_pieces m_writtenMany m_templateWide m_tooMuch))) 227 [some (vR 80), some (vz (tpk A_tape m_taped m_at)), none, none] [] _
        rw [← eG16]
        refine ab_goto (tgt := 312) d_MO_readPart_227 (by decide) ?_
        refine ab_vret rfl d_MO_readPart_312 ?_
        rw [hQ]; exact (Or.inl ⟨_, _, _, _, _, _, _, _, _, _, _, _, _, _, _, _, _, _, _, _, _, _, ((a1_, b1_, c1_, d1_, (e1_ + 1)) :: t1_), 1, 1, SV, ((ao1_, (mnC ro1_ (mnQ (asq 5)))) :: ts1_), ro1_, (mnQ (asq 5)), na, nl, rfl, hfr, hlen, hsl, h80, h87, h88, h93, h91, h92, h110, h111, ptrI_0, (by omega), (by first | exact jmk | exact rgs_w jmk (by omega)), (by first | exact jrl | exact rgs_w jrl (by omega)), (by first | exact jrh | exact rgs_w jrh (by omega)), (by first | exact jns | exact rgs_w jns (by omega)), (by first | exact jnm | exact rgs_w jnm (by omega)), (by omega), (by exact jnj), (by exact stp_leaf (Or.inr (Or.inr (Or.inr (Or.inr (Or.inl ⟨by omega, by omega, rfl⟩)))))), (by exact ss_leaf (Or.inr (Or.inr (Or.inr (Or.inr (Or.inr (Or.inl ⟨by omega, by omega, by rw [show m_flags / 2 % 2 = 1 by omega]; exact congrArg mnQ (by decide)⟩)))))))⟩)
    replace c5 : nzq (tpk A_tape m_taped m_at) 36 := c5
    by_cases c17 : (tpk A_tape m_taped m_at) = 40
    · refine zz_lookup (off := 118) (tgt := 125) d_MO_readPart_7 (by decide) (by omega) (by rw [c17]; decide) (by decide) ?_
      refine ab_aload_n d_MO_readPart_125 rfl ?_
      refine ab_callV (d' := d - 1) (as := []) (st := []) (r := _) (z_MO_readGroup (o := o) (m_thrown := m_thrown) (m_taped := m_taped) (m_length := m_length) (m_out := m_out) (m_wide := m_wide) (m_gathered := m_gathered) (m_sets := m_sets) (m_ranges := m_ranges) (m_nodes := m_nodes) (m_at := m_at) (m_flags := m_flags) (m_fault := m_fault) (m_place := m_place) (m_numbered := m_numbered) (m_depth := m_depth) (m_value := m_value) (m_isNot := m_isNot) (m_least0 := m_least0) (m_most0 := m_most0) (m_slot := m_slot) (m_work := m_work) (m_got := m_got) (m_rowMany := m_rowMany) (m_charAt := m_charAt) (m_charWide := m_charWide) (m_trail := m_trail) (m_isMatch := m_isMatch) (m_matchGroups := m_matchGroups) (m_allFrom := m_allFrom) (m_allBefore := m_allBefore) (m_founds := m_founds) (m_pieces := m_pieces) (m_writtenMany := m_writtenMany) (m_templateWide := m_templateWide) (m_tooMuch := m_tooMuch) (A_tape := A_tape) (LO := LO) (HI := HI) (MK := MK) (RL := RL) (RH := RH) (NS := NS) (NM := NM) (rp := rp) (ls := ls) (SV := SV) (ro := ro) (vv := vv) (a1_ := a1_) (b1_ := b1_) (c1_ := c1_) (d1_ := d1_) (e1_ := e1_) (t1_ := t1_) (ao1_ := ao1_) (ro1_ := ro1_) (ts1_ := ts1_) h80 h84 h87 h88 h93 h81 h82 h91 h92 h110 h111 ptrI_0 (by omega) (by omega) jtp jmk jrl jrh jns jnm (by omega) (by omega) (by omega) (by omega) (by omega) jnj (by omega) (by omega)) (fun oc G2 h => by rcases h with ⟨_, _, _, _, _, _, _, _, _, _, _, _, _, _, _, _, _, _, _, _, _, _, _, _, _, _, _, _, _, _, _, h, _⟩ | ⟨_, _, _, _, _, _, _, _, _, _, _, _, _, _, _, _, _, _, _, _, _, _, _, _, _, _, _, _, _, h, _⟩ <;> exact ⟨_, h⟩) (by omega) m_MO_readGroup ml_MO_421 im_MO_readGroup se_MO_readGroup c_MO h80.2.2 (Nat.le_of_ble_eq_true rfl) d_MO_readPart_126 rfl ?_
      intro v G18 hq
      rcases hq with ⟨a219, v220, nt221, w222, g223, s224, r225, n226, fl227, nu228, d229, le230, mo231, f232, p233, LO234, HI235, MK236, RL237, RH238, NS239, NM240, fr241, rp242, ls243, SV244, FS245, ro246, vv247, na248, nl249, hv, hfk, hlk, hsk, hN80, hN87, hN88, hN93, hN91, hN92, hN110, hN111, pNtrI_0, hq50, hq51, hq52, hq53, hq54, hq55, hq56, hq57, hq58, hq59⟩ | ⟨a260, v261, nt262, w263, g264, s265, r266, n267, fl268, nu269, d270, le271, mo272, f273, p274, LO275, HI276, MK277, RL278, RH279, NS280, NM281, fr282, rp283, ls284, SV285, FS286, ro287, vv288, hv, hfk, hlk, hsk, hN80, hN87, hN88, hN93, hN91, hN92, hN110, hN111, pNtrI_0, hq89, hq90, hq91, hq92, hq93, hq94, hq95⟩
      · cases hv
        have h84 := hfk.get h84 (by decide)
        have h81 := hfk.get h81 (by decide)
        have h82 := hfk.get h82 (by decide)
        have ptrI_0 := pNtrI_0
        have hfr := hfr.tr hfk (by decide)
        have hlen := hlk.trans hlen
        have hsl := hsk.trans hsl
        have h80 := hN80
        have h87 := hN87
        have h88 := hN88
        have h93 := hN93
        have h91 := hN91
        have h92 := hN92
        have h110 := hN110
        have h111 := hN111
        change ab_W _ _ _ G18 129 [some (vR 80), some (vz (tpk A_tape m_taped m_at)), none, none] [] _
        refine ab_goto (tgt := 312) d_MO_readPart_129 (by decide) ?_
        refine ab_vret rfl d_MO_readPart_312 ?_
        rw [hQ]; exact (Or.inl ⟨_, _, _, _, _, _, _, _, _, _, _, _, _, _, _, _, _, _, _, _, _, _, fr241, rp242, ls243, SV244, FS245, ro246, vv247, na248, nl249, rfl, hfr, hlen, hsl, h80, h87, h88, h93, h91, h92, h110, h111, ptrI_0, (by omega), (by first | exact hq51 | exact rgs_w hq51 (by omega)), (by first | exact hq52 | exact rgs_w hq52 (by omega)), (by first | exact hq53 | exact rgs_w hq53 (by omega)), (by first | exact hq54 | exact rgs_w hq54 (by omega)), (by first | exact hq55 | exact rgs_w hq55 (by omega)), (by omega), (by exact hq57), (by exact hq58), (by exact hq59)⟩)
      · cases hv
        have h84 := hfk.get h84 (by decide)
        have h81 := hfk.get h81 (by decide)
        have h82 := hfk.get h82 (by decide)
        have ptrI_0 := pNtrI_0
        have hfr := hfr.tr hfk (by decide)
        have hlen := hlk.trans hlen
        have hsl := hsk.trans hsl
        have h80 := hN80
        have h87 := hN87
        have h88 := hN88
        have h93 := hN93
        have h91 := hN91
        have h92 := hN92
        have h110 := hN110
        have h111 := hN111
        change ab_W _ _ _ G18 129 [some (vR 80), some (vz (tpk A_tape m_taped m_at)), none, none] [] _
        refine ab_goto (tgt := 312) d_MO_readPart_129 (by decide) ?_
        refine ab_vret rfl d_MO_readPart_312 ?_
        rw [hQ]; exact (Or.inr ⟨_, _, _, _, _, _, _, _, _, _, _, _, _, _, _, _, _, _, _, _, _, _, fr282, rp283, ls284, SV285, FS286, ro287, vv288, rfl, hfr, hlen, hsl, h80, h87, h88, h93, h91, h92, h110, h111, ptrI_0, (by omega), (by first | exact hq90 | exact rgs_w hq90 (by omega)), (by first | exact hq91 | exact rgs_w hq91 (by omega)), (by first | exact hq92 | exact rgs_w hq92 (by omega)), (by first | exact hq93 | exact rgs_w hq93 (by omega)), (by first | exact hq94 | exact rgs_w hq94 (by omega)), (by exact hq95)⟩)
    replace c17 : nzq (tpk A_tape m_taped m_at) 40 := c17
    by_cases c96 : (tpk A_tape m_taped m_at) = 41
    · refine zz_lookup (off := 125) (tgt := 132) d_MO_readPart_7 (by decide) (by omega) (by rw [c96]; decide) (by decide) ?_
      refine ab_aload_n d_MO_readPart_132 rfl ?_
      refine ab_callV (d' := d - 1) (as := []) (st := []) (r := _) (z_MO_closeGroup (o := o) (m_thrown := m_thrown) (m_taped := m_taped) (m_length := m_length) (m_out := m_out) (m_wide := m_wide) (m_gathered := m_gathered) (m_sets := m_sets) (m_ranges := m_ranges) (m_nodes := m_nodes) (m_at := m_at) (m_flags := m_flags) (m_fault := m_fault) (m_place := m_place) (m_numbered := m_numbered) (m_depth := m_depth) (m_value := m_value) (m_isNot := m_isNot) (m_least0 := m_least0) (m_most0 := m_most0) (m_slot := m_slot) (m_work := m_work) (m_got := m_got) (m_rowMany := m_rowMany) (m_charAt := m_charAt) (m_charWide := m_charWide) (m_trail := m_trail) (m_isMatch := m_isMatch) (m_matchGroups := m_matchGroups) (m_allFrom := m_allFrom) (m_allBefore := m_allBefore) (m_founds := m_founds) (m_pieces := m_pieces) (m_writtenMany := m_writtenMany) (m_templateWide := m_templateWide) (m_tooMuch := m_tooMuch) (A_tape := A_tape) (LO := LO) (HI := HI) (MK := MK) (RL := RL) (RH := RH) (NS := NS) (NM := NM) (rp := rp) (ls := ls) (SV := SV) (ro := ro) (vv := vv) (a1_ := a1_) (b1_ := b1_) (c1_ := c1_) (d1_ := d1_) (e1_ := e1_) (t1_ := t1_) (ao1_ := ao1_) (ro1_ := ro1_) (ts1_ := ts1_) h80 h84 h87 h88 h93 h81 h82 h91 h92 h110 h111 ptrI_0 (by omega) (by omega) jtp jmk jrl jrh jns jnm (by omega) (by omega) (by omega) (by omega) (by omega) jnj (by omega) (by omega)) (fun oc G2 h => by rcases h with ⟨_, _, _, _, _, _, _, _, _, _, _, _, _, _, _, _, _, _, _, _, _, _, _, _, _, _, _, _, _, _, _, h, _⟩ | ⟨_, _, _, _, _, _, _, _, _, _, _, _, _, _, _, _, _, _, _, _, _, _, _, _, _, _, _, _, _, h, _⟩ <;> exact ⟨_, h⟩) (by omega) m_MO_closeGroup ml_MO_424 im_MO_closeGroup se_MO_closeGroup c_MO h80.2.2 (Nat.le_of_ble_eq_true rfl) d_MO_readPart_133 rfl ?_
      intro v G97 hq
      rcases hq with ⟨a298, v299, nt2100, w2101, g2102, s2103, r2104, n2105, fl2106, nu2107, d2108, le2109, mo2110, f2111, p2112, LO2113, HI2114, MK2115, RL2116, RH2117, NS2118, NM2119, fr2120, rp2121, ls2122, SV2123, FS2124, ro2125, vv2126, na2127, nl2128, hv, hfk, hlk, hsk, hN80, hN87, hN88, hN93, hN91, hN92, hN110, hN111, pNtrI_0, hq129, hq130, hq131, hq132, hq133, hq134, hq135, hq136, hq137, hq138⟩ | ⟨a2139, v2140, nt2141, w2142, g2143, s2144, r2145, n2146, fl2147, nu2148, d2149, le2150, mo2151, f2152, p2153, LO2154, HI2155, MK2156, RL2157, RH2158, NS2159, NM2160, fr2161, rp2162, ls2163, SV2164, FS2165, ro2166, vv2167, hv, hfk, hlk, hsk, hN80, hN87, hN88, hN93, hN91, hN92, hN110, hN111, pNtrI_0, hq168, hq169, hq170, hq171, hq172, hq173, hq174⟩
      · cases hv
        have h84 := hfk.get h84 (by decide)
        have h81 := hfk.get h81 (by decide)
        have h82 := hfk.get h82 (by decide)
        have ptrI_0 := pNtrI_0
        have hfr := hfr.tr hfk (by decide)
        have hlen := hlk.trans hlen
        have hsl := hsk.trans hsl
        have h80 := hN80
        have h87 := hN87
        have h88 := hN88
        have h93 := hN93
        have h91 := hN91
        have h92 := hN92
        have h110 := hN110
        have h111 := hN111
        change ab_W _ _ _ G97 136 [some (vR 80), some (vz (tpk A_tape m_taped m_at)), none, none] [] _
        refine ab_goto (tgt := 312) d_MO_readPart_136 (by decide) ?_
        refine ab_vret rfl d_MO_readPart_312 ?_
        rw [hQ]; exact (Or.inl ⟨_, _, _, _, _, _, _, _, _, _, _, _, _, _, _, _, _, _, _, _, _, _, fr2120, rp2121, ls2122, SV2123, FS2124, ro2125, vv2126, na2127, nl2128, rfl, hfr, hlen, hsl, h80, h87, h88, h93, h91, h92, h110, h111, ptrI_0, (by omega), (by first | exact hq130 | exact rgs_w hq130 (by omega)), (by first | exact hq131 | exact rgs_w hq131 (by omega)), (by first | exact hq132 | exact rgs_w hq132 (by omega)), (by first | exact hq133 | exact rgs_w hq133 (by omega)), (by first | exact hq134 | exact rgs_w hq134 (by omega)), (by omega), (by exact hq136), (by exact hq137), (by exact hq138)⟩)
      · cases hv
        have h84 := hfk.get h84 (by decide)
        have h81 := hfk.get h81 (by decide)
        have h82 := hfk.get h82 (by decide)
        have ptrI_0 := pNtrI_0
        have hfr := hfr.tr hfk (by decide)
        have hlen := hlk.trans hlen
        have hsl := hsk.trans hsl
        have h80 := hN80
        have h87 := hN87
        have h88 := hN88
        have h93 := hN93
        have h91 := hN91
        have h92 := hN92
        have h110 := hN110
        have h111 := hN111
        change ab_W _ _ _ G97 136 [some (vR 80), some (vz (tpk A_tape m_taped m_at)), none, none] [] _
        refine ab_goto (tgt := 312) d_MO_readPart_136 (by decide) ?_
        refine ab_vret rfl d_MO_readPart_312 ?_
        rw [hQ]; exact (Or.inr ⟨_, _, _, _, _, _, _, _, _, _, _, _, _, _, _, _, _, _, _, _, _, _, fr2161, rp2162, ls2163, SV2164, FS2165, ro2166, vv2167, rfl, hfr, hlen, hsl, h80, h87, h88, h93, h91, h92, h110, h111, ptrI_0, (by omega), (by first | exact hq169 | exact rgs_w hq169 (by omega)), (by first | exact hq170 | exact rgs_w hq170 (by omega)), (by first | exact hq171 | exact rgs_w hq171 (by omega)), (by first | exact hq172 | exact rgs_w hq172 (by omega)), (by first | exact hq173 | exact rgs_w hq173 (by omega)), (by exact hq174)⟩)
    replace c96 : nzq (tpk A_tape m_taped m_at) 41 := c96
    by_cases c175 : (tpk A_tape m_taped m_at) = 42
    · refine zz_lookup (off := 223) (tgt := 230) d_MO_readPart_7 (by decide) (by omega) (by rw [c175]; decide) (by decide) ?_
      refine ab_aload_n d_MO_readPart_230 rfl ?_
      refine ab_iload_n d_MO_readPart_231 rfl ?_
      refine zz_bipush d_MO_readPart_232 (by decide) ?_
      refine zz_icmp_ne (tgt := 241) d_MO_readPart_234 (by decide) (by omega) (by decide) (fun c176 => ?_) (fun c176 => absurd c176 (by omega))
      refine zz_iconst d_MO_readPart_241 ?_
      refine ab_putf (fs := mof m_thrown m_taped m_length m_out m_wide m_gathered m_sets m_ranges m_nodes m_at m_flags m_fault m_place m_numbered m_depth m_value m_isNot m_least0 m_most0 m_slot m_work m_got m_rowMany m_charAt m_charWide m_trail m_isMatch m_matchGroups m_allFrom m_allBefore m_founds m_pieces m_writtenMany m_templateWide m_tooMuch) f_MO_403 (Or.inl rfl) d_MO_readPart_242 h80.2.2 (Nat.le_of_ble_eq_true rfl) (fun _ => ⟨rfl, rfl⟩) (h80.2.1 (by decide)) ?_
      obtain ⟨G177, eG177⟩ : ∃ z : ab_G, z = List.set G 80 (ab_ob 12 (mof m_thrown m_taped m_length m_out m_wide m_gathered m_sets m_ranges m_nodes m_at m_flags m_fault m_place m_numbered m_depth m_value m_isNot 0 m_most0 m_slot m_work m_got m_rowMany m_charAt m_charWide m_trail m_isMatch m_matchGroups m_allFrom m_allBefore m_founds m_pieces m_writtenMany m_templateWide m_tooMuch)) := ⟨_, rfl⟩
      have h84 := h84.keep h80 eG177 (by decide)
      have h87 := h87.keep h80 eG177 (by decide)
      have h88 := h88.keep h80 eG177 (by decide)
      have h93 := h93.keep h80 eG177 (by decide)
      have h81 := h81.keep h80 eG177 (by decide)
      have h82 := h82.keep h80 eG177 (by decide)
      have h91 := h91.keep h80 eG177 (by decide)
      have h92 := h92.keep h80 eG177 (by decide)
      have h110 := h110.keep h80 eG177 (by decide)
      have h111 := h111.keep h80 eG177 (by decide)
      have hst := (fx.rf (o := o) (S := [280]) (G := G)).wr h80 eG177 (List.mem_singleton.mpr rfl)
      have ptrI_0 := trI.fr hst ptrI_0 (by decide) (by decide) (by decide) (by decide) (by decide) (by decide) (by decide) (by decide) (by decide) (by decide) (by decide) (by decide) (by decide) (by decide) (by decide) (by decide) (by decide) (by decide)
      have hlen := (z_len eG177).trans hlen
      have hsl := (z_sl h80 eG177 rfl).trans hsl
      have hfr := hfr.wr h80 eG177 (by decide)
      have h80 := h80.kept eG177
      change ab_W _ _ _ (List.set G 80 (ab_ob 12 (mof m_thrown m_taped m_length m_out m_wide m_gathered m_sets m_ranges m_nodes m_at m_flags m_fault m_place m_numbered m_depth m_value m_isNot 0 m_most0 m_slot m_work m_got m_rowMany m_charAt m_charWide m_trail m_isMatch m_matchGroups m_allFrom m_allBefore m_founds m_pieces m_writtenMany m_templateWide m_tooMuch))) 245 [some (vR 80), some (vz (tpk A_tape m_taped m_at)), none, none] [] _
      rw [← eG177]
      refine ab_aload_n d_MO_readPart_245 rfl ?_
      refine ab_iload_n d_MO_readPart_246 rfl ?_
      refine zz_bipush d_MO_readPart_247 (by decide) ?_
      refine zz_icmp_ne (tgt := 256) d_MO_readPart_249 (by decide) (by omega) (by decide) (fun c178 => ?_) (fun c178 => absurd c178 (by omega))
      refine zz_iconst d_MO_readPart_256 ?_
      refine ab_putf (fs := mof m_thrown m_taped m_length m_out m_wide m_gathered m_sets m_ranges m_nodes m_at m_flags m_fault m_place m_numbered m_depth m_value m_isNot 0 m_most0 m_slot m_work m_got m_rowMany m_charAt m_charWide m_trail m_isMatch m_matchGroups m_allFrom m_allBefore m_founds m_pieces m_writtenMany m_templateWide m_tooMuch) f_MO_406 (Or.inl rfl) d_MO_readPart_257 h80.2.2 (Nat.le_of_ble_eq_true rfl) (fun _ => ⟨rfl, rfl⟩) (h80.2.1 (by decide)) ?_
      obtain ⟨G179, eG179⟩ : ∃ z : ab_G, z = List.set G177 80 (ab_ob 12 (mof m_thrown m_taped m_length m_out m_wide m_gathered m_sets m_ranges m_nodes m_at m_flags m_fault m_place m_numbered m_depth m_value m_isNot 0 (-1) m_slot m_work m_got m_rowMany m_charAt m_charWide m_trail m_isMatch m_matchGroups m_allFrom m_allBefore m_founds m_pieces m_writtenMany m_templateWide m_tooMuch)) := ⟨_, rfl⟩
      have h84 := h84.keep h80 eG179 (by decide)
      have h87 := h87.keep h80 eG179 (by decide)
      have h88 := h88.keep h80 eG179 (by decide)
      have h93 := h93.keep h80 eG179 (by decide)
      have h81 := h81.keep h80 eG179 (by decide)
      have h82 := h82.keep h80 eG179 (by decide)
      have h91 := h91.keep h80 eG179 (by decide)
      have h92 := h92.keep h80 eG179 (by decide)
      have h110 := h110.keep h80 eG179 (by decide)
      have h111 := h111.keep h80 eG179 (by decide)
      have hst := (fx.rf (o := o) (S := [280]) (G := G177)).wr h80 eG179 (List.mem_singleton.mpr rfl)
      have ptrI_0 := trI.fr hst ptrI_0 (by decide) (by decide) (by decide) (by decide) (by decide) (by decide) (by decide) (by decide) (by decide) (by decide) (by decide) (by decide) (by decide) (by decide) (by decide) (by decide) (by decide) (by decide)
      have hlen := (z_len eG179).trans hlen
      have hsl := (z_sl h80 eG179 rfl).trans hsl
      have hfr := hfr.wr h80 eG179 (by decide)
      have h80 := h80.kept eG179
      change ab_W _ _ _ (List.set G177 80 (ab_ob 12 (mof m_thrown m_taped m_length m_out m_wide m_gathered m_sets m_ranges m_nodes m_at m_flags m_fault m_place m_numbered m_depth m_value m_isNot 0 (-1) m_slot m_work m_got m_rowMany m_charAt m_charWide m_trail m_isMatch m_matchGroups m_allFrom m_allBefore m_founds m_pieces m_writtenMany m_templateWide m_tooMuch))) 260 [some (vR 80), some (vz (tpk A_tape m_taped m_at)), none, none] [] _
      rw [← eG179]
      refine ab_aload_n d_MO_readPart_260 rfl ?_
      refine zz_iconst d_MO_readPart_261 ?_
      refine ab_callV (d' := d - 1) (as := [vz 1]) (st := []) (r := _) (z_MO_readRepeat (o := o) (m_thrown := m_thrown) (m_taped := m_taped) (m_length := m_length) (m_out := m_out) (m_wide := m_wide) (m_gathered := m_gathered) (m_sets := m_sets) (m_ranges := m_ranges) (m_nodes := m_nodes) (m_at := m_at) (m_flags := m_flags) (m_fault := m_fault) (m_place := m_place) (m_numbered := m_numbered) (m_depth := m_depth) (m_value := m_value) (m_isNot := m_isNot) (m_least0 := 0) (m_most0 := (-1)) (m_slot := m_slot) (m_work := m_work) (m_got := m_got) (m_rowMany := m_rowMany) (m_charAt := m_charAt) (m_charWide := m_charWide) (m_trail := m_trail) (m_isMatch := m_isMatch) (m_matchGroups := m_matchGroups) (m_allFrom := m_allFrom) (m_allBefore := m_allBefore) (m_founds := m_founds) (m_pieces := m_pieces) (m_writtenMany := m_writtenMany) (m_templateWide := m_templateWide) (m_tooMuch := m_tooMuch) (A_tape := A_tape) (LO := LO) (HI := HI) (MK := MK) (RL := RL) (RH := RH) (NS := NS) (NM := NM) (rp := rp) (ls := ls) (SV := SV) (ro := ro) (vv := vv) (a1_ := a1_) (b1_ := b1_) (c1_ := c1_) (d1_ := d1_) (e1_ := e1_) (mo9 := 1000) (t1_ := t1_) (ao1_ := ao1_) (ro1_ := ro1_) (ts1_ := ts1_) (be := 1) (kd9 := 0) h80 h84 h87 h88 h93 h81 h82 h91 h92 h110 h111 ptrI_0 (by omega) (by omega) jtp jmk jrl jrh jns jnm (by omega) (by omega) (by omega) (by omega) (by omega) jnj (by omega) (by omega) (by omega) (by unfold repR; first | (left; omega) | (right; left; omega) | (right; right; left; omega)) (by omega)) (fun oc G2 h => by rcases h with ⟨_, _, _, _, _, _, _, _, _, _, _, _, _, _, _, _, _, _, _, _, _, _, _, _, _, _, _, _, _, _, _, h, _⟩ | ⟨_, _, _, _, _, _, _, _, _, _, _, _, _, _, _, _, _, _, _, _, _, _, _, _, _, _, _, _, _, h, _⟩ <;> exact ⟨_, h⟩) (by omega) m_MO_readRepeat ml_MO_427 im_MO_readRepeat se_MO_readRepeat c_MO h80.2.2 (Nat.le_of_ble_eq_true rfl) d_MO_readPart_262 rfl ?_
      intro v G180 hq
      rcases hq with ⟨a2181, v2182, nt2183, w2184, g2185, s2186, r2187, n2188, fl2189, nu2190, d2191, le2192, mo2193, f2194, p2195, LO2196, HI2197, MK2198, RL2199, RH2200, NS2201, NM2202, fr2203, rp2204, ls2205, SV2206, FS2207, ro2208, vv2209, na2210, nl2211, hv, hfk, hlk, hsk, hN80, hN87, hN88, hN93, hN91, hN92, hN110, hN111, pNtrI_0, hq212, hq213, hq214, hq215, hq216, hq217, hq218, hq219, hq220, hq221⟩ | ⟨a2222, v2223, nt2224, w2225, g2226, s2227, r2228, n2229, fl2230, nu2231, d2232, le2233, mo2234, f2235, p2236, LO2237, HI2238, MK2239, RL2240, RH2241, NS2242, NM2243, fr2244, rp2245, ls2246, SV2247, FS2248, ro2249, vv2250, hv, hfk, hlk, hsk, hN80, hN87, hN88, hN93, hN91, hN92, hN110, hN111, pNtrI_0, hq251, hq252, hq253, hq254, hq255, hq256, hq257⟩
      · cases hv
        have h84 := hfk.get h84 (by decide)
        have h81 := hfk.get h81 (by decide)
        have h82 := hfk.get h82 (by decide)
        have ptrI_0 := pNtrI_0
        have hfr := hfr.tr hfk (by decide)
        have hlen := hlk.trans hlen
        have hsl := hsk.trans hsl
        have h80 := hN80
        have h87 := hN87
        have h88 := hN88
        have h93 := hN93
        have h91 := hN91
        have h92 := hN92
        have h110 := hN110
        have h111 := hN111
        change ab_W _ _ _ G180 265 [some (vR 80), some (vz (tpk A_tape m_taped m_at)), none, none] [] _
        refine ab_goto (tgt := 312) d_MO_readPart_265 (by decide) ?_
        refine ab_vret rfl d_MO_readPart_312 ?_
        rw [hQ]; exact (Or.inl ⟨_, _, _, _, _, _, _, _, _, _, _, _, _, _, _, _, _, _, _, _, _, _, fr2203, rp2204, ls2205, SV2206, FS2207, ro2208, vv2209, na2210, nl2211, rfl, hfr, hlen, hsl, h80, h87, h88, h93, h91, h92, h110, h111, ptrI_0, (by omega), (by first | exact hq213 | exact rgs_w hq213 (by omega)), (by first | exact hq214 | exact rgs_w hq214 (by omega)), (by first | exact hq215 | exact rgs_w hq215 (by omega)), (by first | exact hq216 | exact rgs_w hq216 (by omega)), (by first | exact hq217 | exact rgs_w hq217 (by omega)), (by omega), (by exact hq219), (by exact hq220), (by exact hq221)⟩)
      · cases hv
        have h84 := hfk.get h84 (by decide)
        have h81 := hfk.get h81 (by decide)
        have h82 := hfk.get h82 (by decide)
        have ptrI_0 := pNtrI_0
        have hfr := hfr.tr hfk (by decide)
        have hlen := hlk.trans hlen
        have hsl := hsk.trans hsl
        have h80 := hN80
        have h87 := hN87
        have h88 := hN88
        have h93 := hN93
        have h91 := hN91
        have h92 := hN92
        have h110 := hN110
        have h111 := hN111
        change ab_W _ _ _ G180 265 [some (vR 80), some (vz (tpk A_tape m_taped m_at)), none, none] [] _
        refine ab_goto (tgt := 312) d_MO_readPart_265 (by decide) ?_
        refine ab_vret rfl d_MO_readPart_312 ?_
        rw [hQ]; exact (Or.inr ⟨_, _, _, _, _, _, _, _, _, _, _, _, _, _, _, _, _, _, _, _, _, _, fr2244, rp2245, ls2246, SV2247, FS2248, ro2249, vv2250, rfl, hfr, hlen, hsl, h80, h87, h88, h93, h91, h92, h110, h111, ptrI_0, (by omega), (by first | exact hq252 | exact rgs_w hq252 (by omega)), (by first | exact hq253 | exact rgs_w hq253 (by omega)), (by first | exact hq254 | exact rgs_w hq254 (by omega)), (by first | exact hq255 | exact rgs_w hq255 (by omega)), (by first | exact hq256 | exact rgs_w hq256 (by omega)), (by exact hq257)⟩)
    replace c175 : nzq (tpk A_tape m_taped m_at) 42 := c175
    by_cases c258 : (tpk A_tape m_taped m_at) = 43
    · refine zz_lookup (off := 223) (tgt := 230) d_MO_readPart_7 (by decide) (by omega) (by rw [c258]; decide) (by decide) ?_
      refine ab_aload_n d_MO_readPart_230 rfl ?_
      refine ab_iload_n d_MO_readPart_231 rfl ?_
      refine zz_bipush d_MO_readPart_232 (by decide) ?_
      refine zz_icmp_ne (tgt := 241) d_MO_readPart_234 (by decide) (by omega) (by decide) (fun c259 => absurd c259 (by omega)) (fun c259 => ?_)
      refine zz_iconst d_MO_readPart_237 ?_
      refine ab_goto (tgt := 242) d_MO_readPart_238 (by decide) ?_
      refine ab_putf (fs := mof m_thrown m_taped m_length m_out m_wide m_gathered m_sets m_ranges m_nodes m_at m_flags m_fault m_place m_numbered m_depth m_value m_isNot m_least0 m_most0 m_slot m_work m_got m_rowMany m_charAt m_charWide m_trail m_isMatch m_matchGroups m_allFrom m_allBefore m_founds m_pieces m_writtenMany m_templateWide m_tooMuch) f_MO_403 (Or.inl rfl) d_MO_readPart_242 h80.2.2 (Nat.le_of_ble_eq_true rfl) (fun _ => ⟨rfl, rfl⟩) (h80.2.1 (by decide)) ?_
      obtain ⟨G260, eG260⟩ : ∃ z : ab_G, z = List.set G 80 (ab_ob 12 (mof m_thrown m_taped m_length m_out m_wide m_gathered m_sets m_ranges m_nodes m_at m_flags m_fault m_place m_numbered m_depth m_value m_isNot 1 m_most0 m_slot m_work m_got m_rowMany m_charAt m_charWide m_trail m_isMatch m_matchGroups m_allFrom m_allBefore m_founds m_pieces m_writtenMany m_templateWide m_tooMuch)) := ⟨_, rfl⟩
      have h84 := h84.keep h80 eG260 (by decide)
      have h87 := h87.keep h80 eG260 (by decide)
      have h88 := h88.keep h80 eG260 (by decide)
      have h93 := h93.keep h80 eG260 (by decide)
      have h81 := h81.keep h80 eG260 (by decide)
      have h82 := h82.keep h80 eG260 (by decide)
      have h91 := h91.keep h80 eG260 (by decide)
      have h92 := h92.keep h80 eG260 (by decide)
      have h110 := h110.keep h80 eG260 (by decide)
      have h111 := h111.keep h80 eG260 (by decide)
      have hst := (fx.rf (o := o) (S := [280]) (G := G)).wr h80 eG260 (List.mem_singleton.mpr rfl)
      have ptrI_0 := trI.fr hst ptrI_0 (by decide) (by decide) (by decide) (by decide) (by decide) (by decide) (by decide) (by decide) (by decide) (by decide) (by decide) (by decide) (by decide) (by decide) (by decide) (by decide) (by decide) (by decide)
      have hlen := (z_len eG260).trans hlen
      have hsl := (z_sl h80 eG260 rfl).trans hsl
      have hfr := hfr.wr h80 eG260 (by decide)
      have h80 := h80.kept eG260
      change ab_W _ _ _ (List.set G 80 (ab_ob 12 (mof m_thrown m_taped m_length m_out m_wide m_gathered m_sets m_ranges m_nodes m_at m_flags m_fault m_place m_numbered m_depth m_value m_isNot 1 m_most0 m_slot m_work m_got m_rowMany m_charAt m_charWide m_trail m_isMatch m_matchGroups m_allFrom m_allBefore m_founds m_pieces m_writtenMany m_templateWide m_tooMuch))) 245 [some (vR 80), some (vz (tpk A_tape m_taped m_at)), none, none] [] _
      rw [← eG260]
      refine ab_aload_n d_MO_readPart_245 rfl ?_
      refine ab_iload_n d_MO_readPart_246 rfl ?_
      refine zz_bipush d_MO_readPart_247 (by decide) ?_
      refine zz_icmp_ne (tgt := 256) d_MO_readPart_249 (by decide) (by omega) (by decide) (fun c261 => ?_) (fun c261 => absurd c261 (by omega))
      refine zz_iconst d_MO_readPart_256 ?_
      refine ab_putf (fs := mof m_thrown m_taped m_length m_out m_wide m_gathered m_sets m_ranges m_nodes m_at m_flags m_fault m_place m_numbered m_depth m_value m_isNot 1 m_most0 m_slot m_work m_got m_rowMany m_charAt m_charWide m_trail m_isMatch m_matchGroups m_allFrom m_allBefore m_founds m_pieces m_writtenMany m_templateWide m_tooMuch) f_MO_406 (Or.inl rfl) d_MO_readPart_257 h80.2.2 (Nat.le_of_ble_eq_true rfl) (fun _ => ⟨rfl, rfl⟩) (h80.2.1 (by decide)) ?_
      obtain ⟨G262, eG262⟩ : ∃ z : ab_G, z = List.set G260 80 (ab_ob 12 (mof m_thrown m_taped m_length m_out m_wide m_gathered m_sets m_ranges m_nodes m_at m_flags m_fault m_place m_numbered m_depth m_value m_isNot 1 (-1) m_slot m_work m_got m_rowMany m_charAt m_charWide m_trail m_isMatch m_matchGroups m_allFrom m_allBefore m_founds m_pieces m_writtenMany m_templateWide m_tooMuch)) := ⟨_, rfl⟩
      have h84 := h84.keep h80 eG262 (by decide)
      have h87 := h87.keep h80 eG262 (by decide)
      have h88 := h88.keep h80 eG262 (by decide)
      have h93 := h93.keep h80 eG262 (by decide)
      have h81 := h81.keep h80 eG262 (by decide)
      have h82 := h82.keep h80 eG262 (by decide)
      have h91 := h91.keep h80 eG262 (by decide)
      have h92 := h92.keep h80 eG262 (by decide)
      have h110 := h110.keep h80 eG262 (by decide)
      have h111 := h111.keep h80 eG262 (by decide)
      have hst := (fx.rf (o := o) (S := [280]) (G := G260)).wr h80 eG262 (List.mem_singleton.mpr rfl)
      have ptrI_0 := trI.fr hst ptrI_0 (by decide) (by decide) (by decide) (by decide) (by decide) (by decide) (by decide) (by decide) (by decide) (by decide) (by decide) (by decide) (by decide) (by decide) (by decide) (by decide) (by decide) (by decide)
      have hlen := (z_len eG262).trans hlen
      have hsl := (z_sl h80 eG262 rfl).trans hsl
      have hfr := hfr.wr h80 eG262 (by decide)
      have h80 := h80.kept eG262
      change ab_W _ _ _ (List.set G260 80 (ab_ob 12 (mof m_thrown m_taped m_length m_out m_wide m_gathered m_sets m_ranges m_nodes m_at m_flags m_fault m_place m_numbered m_depth m_value m_isNot 1 (-1) m_slot m_work m_got m_rowMany m_charAt m_charWide m_trail m_isMatch m_matchGroups m_allFrom m_allBefore m_founds m_pieces m_writtenMany m_templateWide m_tooMuch))) 260 [some (vR 80), some (vz (tpk A_tape m_taped m_at)), none, none] [] _
      rw [← eG262]
      refine ab_aload_n d_MO_readPart_260 rfl ?_
      refine zz_iconst d_MO_readPart_261 ?_
      refine ab_callV (d' := d - 1) (as := [vz 1]) (st := []) (r := _) (z_MO_readRepeat (o := o) (m_thrown := m_thrown) (m_taped := m_taped) (m_length := m_length) (m_out := m_out) (m_wide := m_wide) (m_gathered := m_gathered) (m_sets := m_sets) (m_ranges := m_ranges) (m_nodes := m_nodes) (m_at := m_at) (m_flags := m_flags) (m_fault := m_fault) (m_place := m_place) (m_numbered := m_numbered) (m_depth := m_depth) (m_value := m_value) (m_isNot := m_isNot) (m_least0 := 1) (m_most0 := (-1)) (m_slot := m_slot) (m_work := m_work) (m_got := m_got) (m_rowMany := m_rowMany) (m_charAt := m_charAt) (m_charWide := m_charWide) (m_trail := m_trail) (m_isMatch := m_isMatch) (m_matchGroups := m_matchGroups) (m_allFrom := m_allFrom) (m_allBefore := m_allBefore) (m_founds := m_founds) (m_pieces := m_pieces) (m_writtenMany := m_writtenMany) (m_templateWide := m_templateWide) (m_tooMuch := m_tooMuch) (A_tape := A_tape) (LO := LO) (HI := HI) (MK := MK) (RL := RL) (RH := RH) (NS := NS) (NM := NM) (rp := rp) (ls := ls) (SV := SV) (ro := ro) (vv := vv) (a1_ := a1_) (b1_ := b1_) (c1_ := c1_) (d1_ := d1_) (e1_ := e1_) (mo9 := 1000) (t1_ := t1_) (ao1_ := ao1_) (ro1_ := ro1_) (ts1_ := ts1_) (be := 1) (kd9 := 0) h80 h84 h87 h88 h93 h81 h82 h91 h92 h110 h111 ptrI_0 (by omega) (by omega) jtp jmk jrl jrh jns jnm (by omega) (by omega) (by omega) (by omega) (by omega) jnj (by omega) (by omega) (by omega) (by unfold repR; first | (left; omega) | (right; left; omega) | (right; right; left; omega)) (by omega)) (fun oc G2 h => by rcases h with ⟨_, _, _, _, _, _, _, _, _, _, _, _, _, _, _, _, _, _, _, _, _, _, _, _, _, _, _, _, _, _, _, h, _⟩ | ⟨_, _, _, _, _, _, _, _, _, _, _, _, _, _, _, _, _, _, _, _, _, _, _, _, _, _, _, _, _, h, _⟩ <;> exact ⟨_, h⟩) (by omega) m_MO_readRepeat ml_MO_427 im_MO_readRepeat se_MO_readRepeat c_MO h80.2.2 (Nat.le_of_ble_eq_true rfl) d_MO_readPart_262 rfl ?_
      intro v G263 hq
      rcases hq with ⟨a2264, v2265, nt2266, w2267, g2268, s2269, r2270, n2271, fl2272, nu2273, d2274, le2275, mo2276, f2277, p2278, LO2279, HI2280, MK2281, RL2282, RH2283, NS2284, NM2285, fr2286, rp2287, ls2288, SV2289, FS2290, ro2291, vv2292, na2293, nl2294, hv, hfk, hlk, hsk, hN80, hN87, hN88, hN93, hN91, hN92, hN110, hN111, pNtrI_0, hq295, hq296, hq297, hq298, hq299, hq300, hq301, hq302, hq303, hq304⟩ | ⟨a2305, v2306, nt2307, w2308, g2309, s2310, r2311, n2312, fl2313, nu2314, d2315, le2316, mo2317, f2318, p2319, LO2320, HI2321, MK2322, RL2323, RH2324, NS2325, NM2326, fr2327, rp2328, ls2329, SV2330, FS2331, ro2332, vv2333, hv, hfk, hlk, hsk, hN80, hN87, hN88, hN93, hN91, hN92, hN110, hN111, pNtrI_0, hq334, hq335, hq336, hq337, hq338, hq339, hq340⟩
      · cases hv
        have h84 := hfk.get h84 (by decide)
        have h81 := hfk.get h81 (by decide)
        have h82 := hfk.get h82 (by decide)
        have ptrI_0 := pNtrI_0
        have hfr := hfr.tr hfk (by decide)
        have hlen := hlk.trans hlen
        have hsl := hsk.trans hsl
        have h80 := hN80
        have h87 := hN87
        have h88 := hN88
        have h93 := hN93
        have h91 := hN91
        have h92 := hN92
        have h110 := hN110
        have h111 := hN111
        change ab_W _ _ _ G263 265 [some (vR 80), some (vz (tpk A_tape m_taped m_at)), none, none] [] _
        refine ab_goto (tgt := 312) d_MO_readPart_265 (by decide) ?_
        refine ab_vret rfl d_MO_readPart_312 ?_
        rw [hQ]; exact (Or.inl ⟨_, _, _, _, _, _, _, _, _, _, _, _, _, _, _, _, _, _, _, _, _, _, fr2286, rp2287, ls2288, SV2289, FS2290, ro2291, vv2292, na2293, nl2294, rfl, hfr, hlen, hsl, h80, h87, h88, h93, h91, h92, h110, h111, ptrI_0, (by omega), (by first | exact hq296 | exact rgs_w hq296 (by omega)), (by first | exact hq297 | exact rgs_w hq297 (by omega)), (by first | exact hq298 | exact rgs_w hq298 (by omega)), (by first | exact hq299 | exact rgs_w hq299 (by omega)), (by first | exact hq300 | exact rgs_w hq300 (by omega)), (by omega), (by exact hq302), (by exact hq303), (by exact hq304)⟩)
      · cases hv
        have h84 := hfk.get h84 (by decide)
        have h81 := hfk.get h81 (by decide)
        have h82 := hfk.get h82 (by decide)
        have ptrI_0 := pNtrI_0
        have hfr := hfr.tr hfk (by decide)
        have hlen := hlk.trans hlen
        have hsl := hsk.trans hsl
        have h80 := hN80
        have h87 := hN87
        have h88 := hN88
        have h93 := hN93
        have h91 := hN91
        have h92 := hN92
        have h110 := hN110
        have h111 := hN111
        change ab_W _ _ _ G263 265 [some (vR 80), some (vz (tpk A_tape m_taped m_at)), none, none] [] _
        refine ab_goto (tgt := 312) d_MO_readPart_265 (by decide) ?_
        refine ab_vret rfl d_MO_readPart_312 ?_
        rw [hQ]; exact (Or.inr ⟨_, _, _, _, _, _, _, _, _, _, _, _, _, _, _, _, _, _, _, _, _, _, fr2327, rp2328, ls2329, SV2330, FS2331, ro2332, vv2333, rfl, hfr, hlen, hsl, h80, h87, h88, h93, h91, h92, h110, h111, ptrI_0, (by omega), (by first | exact hq335 | exact rgs_w hq335 (by omega)), (by first | exact hq336 | exact rgs_w hq336 (by omega)), (by first | exact hq337 | exact rgs_w hq337 (by omega)), (by first | exact hq338 | exact rgs_w hq338 (by omega)), (by first | exact hq339 | exact rgs_w hq339 (by omega)), (by exact hq340)⟩)
    replace c258 : nzq (tpk A_tape m_taped m_at) 43 := c258
    by_cases c341 : (tpk A_tape m_taped m_at) = 46
    · refine zz_lookup (off := 111) (tgt := 118) d_MO_readPart_7 (by decide) (by omega) (by rw [c341]; decide) (by decide) ?_
      refine ab_aload_n d_MO_readPart_118 rfl ?_
      refine ab_callV (d' := d - 1) (as := []) (st := []) (r := _) (z_MO_readDot (o := o) (m_thrown := m_thrown) (m_taped := m_taped) (m_length := m_length) (m_out := m_out) (m_wide := m_wide) (m_gathered := m_gathered) (m_sets := m_sets) (m_ranges := m_ranges) (m_nodes := m_nodes) (m_at := m_at) (m_flags := m_flags) (m_fault := m_fault) (m_place := m_place) (m_numbered := m_numbered) (m_depth := m_depth) (m_value := m_value) (m_isNot := m_isNot) (m_least0 := m_least0) (m_most0 := m_most0) (m_slot := m_slot) (m_work := m_work) (m_got := m_got) (m_rowMany := m_rowMany) (m_charAt := m_charAt) (m_charWide := m_charWide) (m_trail := m_trail) (m_isMatch := m_isMatch) (m_matchGroups := m_matchGroups) (m_allFrom := m_allFrom) (m_allBefore := m_allBefore) (m_founds := m_founds) (m_pieces := m_pieces) (m_writtenMany := m_writtenMany) (m_templateWide := m_templateWide) (m_tooMuch := m_tooMuch) (A_tape := A_tape) (LO := LO) (HI := HI) (MK := MK) (RL := RL) (RH := RH) (NS := NS) (NM := NM) (rp := rp) (ls := ls) (SV := SV) (ro := ro) (vv := vv) (a1_ := a1_) (b1_ := b1_) (c1_ := c1_) (d1_ := d1_) (e1_ := e1_) (t1_ := t1_) (ao1_ := ao1_) (ro1_ := ro1_) (ts1_ := ts1_) h80 h84 h87 h88 h93 h81 h82 h91 h92 h110 h111 ptrI_0 (by omega) (by omega) jtp jmk jrl jrh jns jnm (by omega) (by omega) (by omega) (by omega) (by omega) (by omega)) (fun oc G2 h => by rcases h with ⟨_, _, _, _, _, _, _, _, _, _, _, _, _, _, _, _, _, _, h, _⟩ <;> exact ⟨_, h⟩) (by omega) m_MO_readDot ml_MO_418 im_MO_readDot se_MO_readDot c_MO h80.2.2 (Nat.le_of_ble_eq_true rfl) d_MO_readPart_119 rfl ?_
      intro v G342 hq
      rcases hq with ⟨a2343, g2344, s2345, r2346, n2347, v2348, nt2349, w2350, f2351, p2352, z9353, LO2354, HI2355, MK2356, RL2357, RH2358, SV2359, v9360, hv, hfk, hlk, hsk, hN80, hN87, hN88, hN93, hN91, hN92, hN110, hN111, pNtrI_0, hq361, hq362, hq363, hq364, hq365, hq366⟩
      cases hv
      have h84 := hfk.get h84 (by decide)
      have h81 := hfk.get h81 (by decide)
      have h82 := hfk.get h82 (by decide)
      have ptrI_0 := pNtrI_0
      have hfr := hfr.tr hfk (by decide)
      have hlen := hlk.trans hlen
      have hsl := hsk.trans hsl
      have h80 := hN80
      have h87 := hN87
      have h88 := hN88
      have h93 := hN93
      have h91 := hN91
      have h92 := hN92
      have h110 := hN110
      have h111 := hN111
      change ab_W _ _ _ G342 122 [some (vR 80), some (vz (tpk A_tape m_taped m_at)), none, none] [] _
      refine ab_goto (tgt := 312) d_MO_readPart_122 (by decide) ?_
      refine ab_vret rfl d_MO_readPart_312 ?_
      rw [hQ]; exact (Or.inl ⟨_, _, _, _, _, _, _, _, _, _, _, _, _, _, _, _, _, _, _, _, _, _, ((a1_, b1_, c1_, d1_, (e1_ + z9353)) :: t1_), 1, z9353, SV2359, ((ao1_, (mnC ro1_ v9360)) :: ts1_), ro1_, v9360, na, nl, rfl, hfr, hlen, hsl, h80, h87, h88, h93, h91, h92, h110, h111, ptrI_0, (by omega), (by first | exact hq362 | exact rgs_w hq362 (by omega)), (by first | exact hq363 | exact rgs_w hq363 (by omega)), (by first | exact hq364 | exact rgs_w hq364 (by omega)), (by first | exact jns | exact rgs_w jns (by omega)), (by first | exact jnm | exact rgs_w jnm (by omega)), (by omega), (by exact jnj), (by exact stp_leaf hq365), (by exact ss_leaf hq366)⟩)
    replace c341 : nzq (tpk A_tape m_taped m_at) 46 := c341
    by_cases c367 : (tpk A_tape m_taped m_at) = 63
    · refine zz_lookup (off := 223) (tgt := 230) d_MO_readPart_7 (by decide) (by omega) (by rw [c367]; decide) (by decide) ?_
      refine ab_aload_n d_MO_readPart_230 rfl ?_
      refine ab_iload_n d_MO_readPart_231 rfl ?_
      refine zz_bipush d_MO_readPart_232 (by decide) ?_
      refine zz_icmp_ne (tgt := 241) d_MO_readPart_234 (by decide) (by omega) (by decide) (fun c368 => ?_) (fun c368 => absurd c368 (by omega))
      refine zz_iconst d_MO_readPart_241 ?_
      refine ab_putf (fs := mof m_thrown m_taped m_length m_out m_wide m_gathered m_sets m_ranges m_nodes m_at m_flags m_fault m_place m_numbered m_depth m_value m_isNot m_least0 m_most0 m_slot m_work m_got m_rowMany m_charAt m_charWide m_trail m_isMatch m_matchGroups m_allFrom m_allBefore m_founds m_pieces m_writtenMany m_templateWide m_tooMuch) f_MO_403 (Or.inl rfl) d_MO_readPart_242 h80.2.2 (Nat.le_of_ble_eq_true rfl) (fun _ => ⟨rfl, rfl⟩) (h80.2.1 (by decide)) ?_
      obtain ⟨G369, eG369⟩ : ∃ z : ab_G, z = List.set G 80 (ab_ob 12 (mof m_thrown m_taped m_length m_out m_wide m_gathered m_sets m_ranges m_nodes m_at m_flags m_fault m_place m_numbered m_depth m_value m_isNot 0 m_most0 m_slot m_work m_got m_rowMany m_charAt m_charWide m_trail m_isMatch m_matchGroups m_allFrom m_allBefore m_founds m_pieces m_writtenMany m_templateWide m_tooMuch)) := ⟨_, rfl⟩
      have h84 := h84.keep h80 eG369 (by decide)
      have h87 := h87.keep h80 eG369 (by decide)
      have h88 := h88.keep h80 eG369 (by decide)
      have h93 := h93.keep h80 eG369 (by decide)
      have h81 := h81.keep h80 eG369 (by decide)
      have h82 := h82.keep h80 eG369 (by decide)
      have h91 := h91.keep h80 eG369 (by decide)
      have h92 := h92.keep h80 eG369 (by decide)
      have h110 := h110.keep h80 eG369 (by decide)
      have h111 := h111.keep h80 eG369 (by decide)
      have hst := (fx.rf (o := o) (S := [280]) (G := G)).wr h80 eG369 (List.mem_singleton.mpr rfl)
      have ptrI_0 := trI.fr hst ptrI_0 (by decide) (by decide) (by decide) (by decide) (by decide) (by decide) (by decide) (by decide) (by decide) (by decide) (by decide) (by decide) (by decide) (by decide) (by decide) (by decide) (by decide) (by decide)
      have hlen := (z_len eG369).trans hlen
      have hsl := (z_sl h80 eG369 rfl).trans hsl
      have hfr := hfr.wr h80 eG369 (by decide)
      have h80 := h80.kept eG369
      change ab_W _ _ _ (List.set G 80 (ab_ob 12 (mof m_thrown m_taped m_length m_out m_wide m_gathered m_sets m_ranges m_nodes m_at m_flags m_fault m_place m_numbered m_depth m_value m_isNot 0 m_most0 m_slot m_work m_got m_rowMany m_charAt m_charWide m_trail m_isMatch m_matchGroups m_allFrom m_allBefore m_founds m_pieces m_writtenMany m_templateWide m_tooMuch))) 245 [some (vR 80), some (vz (tpk A_tape m_taped m_at)), none, none] [] _
      rw [← eG369]
      refine ab_aload_n d_MO_readPart_245 rfl ?_
      refine ab_iload_n d_MO_readPart_246 rfl ?_
      refine zz_bipush d_MO_readPart_247 (by decide) ?_
      refine zz_icmp_ne (tgt := 256) d_MO_readPart_249 (by decide) (by omega) (by decide) (fun c370 => absurd c370 (by omega)) (fun c370 => ?_)
      refine zz_iconst d_MO_readPart_252 ?_
      refine ab_goto (tgt := 257) d_MO_readPart_253 (by decide) ?_
      refine ab_putf (fs := mof m_thrown m_taped m_length m_out m_wide m_gathered m_sets m_ranges m_nodes m_at m_flags m_fault m_place m_numbered m_depth m_value m_isNot 0 m_most0 m_slot m_work m_got m_rowMany m_charAt m_charWide m_trail m_isMatch m_matchGroups m_allFrom m_allBefore m_founds m_pieces m_writtenMany m_templateWide m_tooMuch) f_MO_406 (Or.inl rfl) d_MO_readPart_257 h80.2.2 (Nat.le_of_ble_eq_true rfl) (fun _ => ⟨rfl, rfl⟩) (h80.2.1 (by decide)) ?_
      obtain ⟨G371, eG371⟩ : ∃ z : ab_G, z = List.set G369 80 (ab_ob 12 (mof m_thrown m_taped m_length m_out m_wide m_gathered m_sets m_ranges m_nodes m_at m_flags m_fault m_place m_numbered m_depth m_value m_isNot 0 1 m_slot m_work m_got m_rowMany m_charAt m_charWide m_trail m_isMatch m_matchGroups m_allFrom m_allBefore m_founds m_pieces m_writtenMany m_templateWide m_tooMuch)) := ⟨_, rfl⟩
      have h84 := h84.keep h80 eG371 (by decide)
      have h87 := h87.keep h80 eG371 (by decide)
      have h88 := h88.keep h80 eG371 (by decide)
      have h93 := h93.keep h80 eG371 (by decide)
      have h81 := h81.keep h80 eG371 (by decide)
      have h82 := h82.keep h80 eG371 (by decide)
      have h91 := h91.keep h80 eG371 (by decide)
      have h92 := h92.keep h80 eG371 (by decide)
      have h110 := h110.keep h80 eG371 (by decide)
      have h111 := h111.keep h80 eG371 (by decide)
      have hst := (fx.rf (o := o) (S := [280]) (G := G369)).wr h80 eG371 (List.mem_singleton.mpr rfl)
      have ptrI_0 := trI.fr hst ptrI_0 (by decide) (by decide) (by decide) (by decide) (by decide) (by decide) (by decide) (by decide) (by decide) (by decide) (by decide) (by decide) (by decide) (by decide) (by decide) (by decide) (by decide) (by decide)
      have hlen := (z_len eG371).trans hlen
      have hsl := (z_sl h80 eG371 rfl).trans hsl
      have hfr := hfr.wr h80 eG371 (by decide)
      have h80 := h80.kept eG371
      change ab_W _ _ _ (List.set G369 80 (ab_ob 12 (mof m_thrown m_taped m_length m_out m_wide m_gathered m_sets m_ranges m_nodes m_at m_flags m_fault m_place m_numbered m_depth m_value m_isNot 0 1 m_slot m_work m_got m_rowMany m_charAt m_charWide m_trail m_isMatch m_matchGroups m_allFrom m_allBefore m_founds m_pieces m_writtenMany m_templateWide m_tooMuch))) 260 [some (vR 80), some (vz (tpk A_tape m_taped m_at)), none, none] [] _
      rw [← eG371]
      refine ab_aload_n d_MO_readPart_260 rfl ?_
      refine zz_iconst d_MO_readPart_261 ?_
      refine ab_callV (d' := d - 1) (as := [vz 1]) (st := []) (r := _) (z_MO_readRepeat (o := o) (m_thrown := m_thrown) (m_taped := m_taped) (m_length := m_length) (m_out := m_out) (m_wide := m_wide) (m_gathered := m_gathered) (m_sets := m_sets) (m_ranges := m_ranges) (m_nodes := m_nodes) (m_at := m_at) (m_flags := m_flags) (m_fault := m_fault) (m_place := m_place) (m_numbered := m_numbered) (m_depth := m_depth) (m_value := m_value) (m_isNot := m_isNot) (m_least0 := 0) (m_most0 := 1) (m_slot := m_slot) (m_work := m_work) (m_got := m_got) (m_rowMany := m_rowMany) (m_charAt := m_charAt) (m_charWide := m_charWide) (m_trail := m_trail) (m_isMatch := m_isMatch) (m_matchGroups := m_matchGroups) (m_allFrom := m_allFrom) (m_allBefore := m_allBefore) (m_founds := m_founds) (m_pieces := m_pieces) (m_writtenMany := m_writtenMany) (m_templateWide := m_templateWide) (m_tooMuch := m_tooMuch) (A_tape := A_tape) (LO := LO) (HI := HI) (MK := MK) (RL := RL) (RH := RH) (NS := NS) (NM := NM) (rp := rp) (ls := ls) (SV := SV) (ro := ro) (vv := vv) (a1_ := a1_) (b1_ := b1_) (c1_ := c1_) (d1_ := d1_) (e1_ := e1_) (mo9 := 1) (t1_ := t1_) (ao1_ := ao1_) (ro1_ := ro1_) (ts1_ := ts1_) (be := 1) (kd9 := 0) h80 h84 h87 h88 h93 h81 h82 h91 h92 h110 h111 ptrI_0 (by omega) (by omega) jtp jmk jrl jrh jns jnm (by omega) (by omega) (by omega) (by omega) (by omega) jnj (by omega) (by omega) (by omega) (by unfold repR; first | (left; omega) | (right; left; omega) | (right; right; left; omega)) (by omega)) (fun oc G2 h => by rcases h with ⟨_, _, _, _, _, _, _, _, _, _, _, _, _, _, _, _, _, _, _, _, _, _, _, _, _, _, _, _, _, _, _, h, _⟩ | ⟨_, _, _, _, _, _, _, _, _, _, _, _, _, _, _, _, _, _, _, _, _, _, _, _, _, _, _, _, _, h, _⟩ <;> exact ⟨_, h⟩) (by omega) m_MO_readRepeat ml_MO_427 im_MO_readRepeat se_MO_readRepeat c_MO h80.2.2 (Nat.le_of_ble_eq_true rfl) d_MO_readPart_262 rfl ?_
      intro v G372 hq
      rcases hq with ⟨a2373, v2374, nt2375, w2376, g2377, s2378, r2379, n2380, fl2381, nu2382, d2383, le2384, mo2385, f2386, p2387, LO2388, HI2389, MK2390, RL2391, RH2392, NS2393, NM2394, fr2395, rp2396, ls2397, SV2398, FS2399, ro2400, vv2401, na2402, nl2403, hv, hfk, hlk, hsk, hN80, hN87, hN88, hN93, hN91, hN92, hN110, hN111, pNtrI_0, hq404, hq405, hq406, hq407, hq408, hq409, hq410, hq411, hq412, hq413⟩ | ⟨a2414, v2415, nt2416, w2417, g2418, s2419, r2420, n2421, fl2422, nu2423, d2424, le2425, mo2426, f2427, p2428, LO2429, HI2430, MK2431, RL2432, RH2433, NS2434, NM2435, fr2436, rp2437, ls2438, SV2439, FS2440, ro2441, vv2442, hv, hfk, hlk, hsk, hN80, hN87, hN88, hN93, hN91, hN92, hN110, hN111, pNtrI_0, hq443, hq444, hq445, hq446, hq447, hq448, hq449⟩
      · cases hv
        have h84 := hfk.get h84 (by decide)
        have h81 := hfk.get h81 (by decide)
        have h82 := hfk.get h82 (by decide)
        have ptrI_0 := pNtrI_0
        have hfr := hfr.tr hfk (by decide)
        have hlen := hlk.trans hlen
        have hsl := hsk.trans hsl
        have h80 := hN80
        have h87 := hN87
        have h88 := hN88
        have h93 := hN93
        have h91 := hN91
        have h92 := hN92
        have h110 := hN110
        have h111 := hN111
        change ab_W _ _ _ G372 265 [some (vR 80), some (vz (tpk A_tape m_taped m_at)), none, none] [] _
        refine ab_goto (tgt := 312) d_MO_readPart_265 (by decide) ?_
        refine ab_vret rfl d_MO_readPart_312 ?_
        rw [hQ]; exact (Or.inl ⟨_, _, _, _, _, _, _, _, _, _, _, _, _, _, _, _, _, _, _, _, _, _, fr2395, rp2396, ls2397, SV2398, FS2399, ro2400, vv2401, na2402, nl2403, rfl, hfr, hlen, hsl, h80, h87, h88, h93, h91, h92, h110, h111, ptrI_0, (by omega), (by first | exact hq405 | exact rgs_w hq405 (by omega)), (by first | exact hq406 | exact rgs_w hq406 (by omega)), (by first | exact hq407 | exact rgs_w hq407 (by omega)), (by first | exact hq408 | exact rgs_w hq408 (by omega)), (by first | exact hq409 | exact rgs_w hq409 (by omega)), (by omega), (by exact hq411), (by exact hq412), (by exact hq413)⟩)
      · cases hv
        have h84 := hfk.get h84 (by decide)
        have h81 := hfk.get h81 (by decide)
        have h82 := hfk.get h82 (by decide)
        have ptrI_0 := pNtrI_0
        have hfr := hfr.tr hfk (by decide)
        have hlen := hlk.trans hlen
        have hsl := hsk.trans hsl
        have h80 := hN80
        have h87 := hN87
        have h88 := hN88
        have h93 := hN93
        have h91 := hN91
        have h92 := hN92
        have h110 := hN110
        have h111 := hN111
        change ab_W _ _ _ G372 265 [some (vR 80), some (vz (tpk A_tape m_taped m_at)), none, none] [] _
        refine ab_goto (tgt := 312) d_MO_readPart_265 (by decide) ?_
        refine ab_vret rfl d_MO_readPart_312 ?_
        rw [hQ]; exact (Or.inr ⟨_, _, _, _, _, _, _, _, _, _, _, _, _, _, _, _, _, _, _, _, _, _, fr2436, rp2437, ls2438, SV2439, FS2440, ro2441, vv2442, rfl, hfr, hlen, hsl, h80, h87, h88, h93, h91, h92, h110, h111, ptrI_0, (by omega), (by first | exact hq444 | exact rgs_w hq444 (by omega)), (by first | exact hq445 | exact rgs_w hq445 (by omega)), (by first | exact hq446 | exact rgs_w hq446 (by omega)), (by first | exact hq447 | exact rgs_w hq447 (by omega)), (by first | exact hq448 | exact rgs_w hq448 (by omega)), (by exact hq449)⟩)
    replace c367 : nzq (tpk A_tape m_taped m_at) 63 := c367
    by_cases c450 : (tpk A_tape m_taped m_at) = 91
    · refine zz_lookup (off := 104) (tgt := 111) d_MO_readPart_7 (by decide) (by omega) (by rw [c450]; decide) (by decide) ?_
      refine ab_aload_n d_MO_readPart_111 rfl ?_
      refine ab_callV (d' := d - 1) (as := []) (st := []) (r := _) (z_MO_readClass (o := o) (m_thrown := m_thrown) (m_taped := m_taped) (m_length := m_length) (m_out := m_out) (m_wide := m_wide) (m_gathered := m_gathered) (m_sets := m_sets) (m_ranges := m_ranges) (m_nodes := m_nodes) (m_at := m_at) (m_flags := m_flags) (m_fault := m_fault) (m_place := m_place) (m_numbered := m_numbered) (m_depth := m_depth) (m_value := m_value) (m_isNot := m_isNot) (m_least0 := m_least0) (m_most0 := m_most0) (m_slot := m_slot) (m_work := m_work) (m_got := m_got) (m_rowMany := m_rowMany) (m_charAt := m_charAt) (m_charWide := m_charWide) (m_trail := m_trail) (m_isMatch := m_isMatch) (m_matchGroups := m_matchGroups) (m_allFrom := m_allFrom) (m_allBefore := m_allBefore) (m_founds := m_founds) (m_pieces := m_pieces) (m_writtenMany := m_writtenMany) (m_templateWide := m_templateWide) (m_tooMuch := m_tooMuch) (A_tape := A_tape) (LO := LO) (HI := HI) (MK := MK) (RL := RL) (RH := RH) (NS := NS) (NM := NM) (rp := rp) (ls := ls) (SV := SV) (ro := ro) (vv := vv) (a1_ := a1_) (b1_ := b1_) (c1_ := c1_) (d1_ := d1_) (e1_ := e1_) (t1_ := t1_) (ao1_ := ao1_) (ro1_ := ro1_) (ts1_ := ts1_) h80 h84 h87 h88 h93 h81 h82 h91 h92 h110 h111 ptrI_0 (by omega) (by omega) jtp jmk jrl jrh jns jnm (by omega) (by omega) (by omega) (by omega) (by omega) (by omega)) (fun oc G2 h => by rcases h with ⟨_, _, _, _, _, _, _, _, _, _, _, _, _, _, _, _, _, _, h, _⟩ | ⟨_, _, _, _, _, _, _, _, _, _, h, _⟩ <;> exact ⟨_, h⟩) (by omega) m_MO_readClass ml_MO_415 im_MO_readClass se_MO_readClass c_MO h80.2.2 (Nat.le_of_ble_eq_true rfl) d_MO_readPart_112 rfl ?_
      intro v G451 hq
      rcases hq with ⟨a2452, g2453, s2454, r2455, n2456, v2457, nt2458, w2459, f2460, p2461, z9462, LO2463, HI2464, MK2465, RL2466, RH2467, SV2468, v9469, hv, hfk, hlk, hsk, hN80, hN87, hN88, hN93, hN91, hN92, hN110, hN111, pNtrI_0, hq470, hq471, hq472, hq473, hq474, hq475⟩ | ⟨a2476, f2477, p2478, g2479, v2480, nt2481, w2482, LO2483, HI2484, MK2485, hv, hfk, hlk, hsk, hN80, hN87, hN88, hN93, hN91, hN92, hN110, hN111, pNtrI_0, hq486, hq487, hq488⟩
      · cases hv
        have h84 := hfk.get h84 (by decide)
        have h81 := hfk.get h81 (by decide)
        have h82 := hfk.get h82 (by decide)
        have ptrI_0 := pNtrI_0
        have hfr := hfr.tr hfk (by decide)
        have hlen := hlk.trans hlen
        have hsl := hsk.trans hsl
        have h80 := hN80
        have h87 := hN87
        have h88 := hN88
        have h93 := hN93
        have h91 := hN91
        have h92 := hN92
        have h110 := hN110
        have h111 := hN111
        change ab_W _ _ _ G451 115 [some (vR 80), some (vz (tpk A_tape m_taped m_at)), none, none] [] _
        refine ab_goto (tgt := 312) d_MO_readPart_115 (by decide) ?_
        refine ab_vret rfl d_MO_readPart_312 ?_
        rw [hQ]; exact (Or.inl ⟨_, _, _, _, _, _, _, _, _, _, _, _, _, _, _, _, _, _, _, _, _, _, ((a1_, b1_, c1_, d1_, (e1_ + z9462)) :: t1_), 1, z9462, SV2468, ((ao1_, (mnC ro1_ v9469)) :: ts1_), ro1_, v9469, na, nl, rfl, hfr, hlen, hsl, h80, h87, h88, h93, h91, h92, h110, h111, ptrI_0, (by omega), (by first | exact hq471 | exact rgs_w hq471 (by omega)), (by first | exact hq472 | exact rgs_w hq472 (by omega)), (by first | exact hq473 | exact rgs_w hq473 (by omega)), (by first | exact jns | exact rgs_w jns (by omega)), (by first | exact jnm | exact rgs_w jnm (by omega)), (by omega), (by exact jnj), (by exact stp_leaf hq474), (by exact ss_leaf hq475)⟩)
      · cases hv
        have h84 := hfk.get h84 (by decide)
        have h81 := hfk.get h81 (by decide)
        have h82 := hfk.get h82 (by decide)
        have ptrI_0 := pNtrI_0
        have hfr := hfr.tr hfk (by decide)
        have hlen := hlk.trans hlen
        have hsl := hsk.trans hsl
        have h80 := hN80
        have h87 := hN87
        have h88 := hN88
        have h93 := hN93
        have h91 := hN91
        have h92 := hN92
        have h110 := hN110
        have h111 := hN111
        change ab_W _ _ _ G451 115 [some (vR 80), some (vz (tpk A_tape m_taped m_at)), none, none] [] _
        refine ab_goto (tgt := 312) d_MO_readPart_115 (by decide) ?_
        refine ab_vret rfl d_MO_readPart_312 ?_
        rw [hQ]; exact (Or.inr ⟨_, _, _, _, _, _, _, _, _, _, _, _, _, _, _, _, _, _, _, _, _, _, ((a1_, b1_, c1_, d1_, e1_) :: t1_), rp, ls, SV, ((ao1_, ro1_) :: ts1_), ro, vv, rfl, hfr, hlen, hsl, h80, h87, h88, h93, h91, h92, h110, h111, ptrI_0, (by omega), (by first | exact hq487 | exact rgs_w hq487 (by omega)), (by first | exact jrl | exact rgs_w jrl (by omega)), (by first | exact jrh | exact rgs_w jrh (by omega)), (by first | exact jns | exact rgs_w jns (by omega)), (by first | exact jnm | exact rgs_w jnm (by omega)), (by exact stF_lf hq488)⟩)
    replace c450 : nzq (tpk A_tape m_taped m_at) 91 := c450
    by_cases c489 : (tpk A_tape m_taped m_at) = 92
    · refine zz_lookup (off := 97) (tgt := 104) d_MO_readPart_7 (by decide) (by omega) (by rw [c489]; decide) (by decide) ?_
      refine ab_aload_n d_MO_readPart_104 rfl ?_
      refine ab_callV (d' := d - 1) (as := []) (st := []) (r := _) (z_MO_readEscape (o := o) (m_thrown := m_thrown) (m_taped := m_taped) (m_length := m_length) (m_out := m_out) (m_wide := m_wide) (m_gathered := m_gathered) (m_sets := m_sets) (m_ranges := m_ranges) (m_nodes := m_nodes) (m_at := m_at) (m_flags := m_flags) (m_fault := m_fault) (m_place := m_place) (m_numbered := m_numbered) (m_depth := m_depth) (m_value := m_value) (m_isNot := m_isNot) (m_least0 := m_least0) (m_most0 := m_most0) (m_slot := m_slot) (m_work := m_work) (m_got := m_got) (m_rowMany := m_rowMany) (m_charAt := m_charAt) (m_charWide := m_charWide) (m_trail := m_trail) (m_isMatch := m_isMatch) (m_matchGroups := m_matchGroups) (m_allFrom := m_allFrom) (m_allBefore := m_allBefore) (m_founds := m_founds) (m_pieces := m_pieces) (m_writtenMany := m_writtenMany) (m_templateWide := m_templateWide) (m_tooMuch := m_tooMuch) (A_tape := A_tape) (LO := LO) (HI := HI) (MK := MK) (RL := RL) (RH := RH) (NS := NS) (NM := NM) (rp := rp) (ls := ls) (SV := SV) (ro := ro) (vv := vv) (a1_ := a1_) (b1_ := b1_) (c1_ := c1_) (d1_ := d1_) (e1_ := e1_) (t1_ := t1_) (ao1_ := ao1_) (ro1_ := ro1_) (ts1_ := ts1_) h80 h84 h87 h88 h93 h81 h82 h91 h92 h110 h111 ptrI_0 (by omega) (by omega) jtp jmk jrl jrh jns jnm (by omega) (by omega) (by omega) (by omega) (by omega) (by omega)) (fun oc G2 h => by rcases h with ⟨_, _, _, _, _, _, _, _, _, _, _, _, _, _, _, _, _, _, h, _⟩ | ⟨_, _, _, _, _, _, _, _, _, _, h, _⟩ <;> exact ⟨_, h⟩) (by omega) m_MO_readEscape ml_MO_412 im_MO_readEscape se_MO_readEscape c_MO h80.2.2 (Nat.le_of_ble_eq_true rfl) d_MO_readPart_105 rfl ?_
      intro v G490 hq
      rcases hq with ⟨a2491, g2492, s2493, r2494, n2495, v2496, nt2497, w2498, f2499, p2500, z9501, LO2502, HI2503, MK2504, RL2505, RH2506, SV2507, v9508, hv, hfk, hlk, hsk, hN80, hN87, hN88, hN93, hN91, hN92, hN110, hN111, pNtrI_0, hq509, hq510, hq511, hq512, hq513, hq514⟩ | ⟨a2515, f2516, p2517, g2518, v2519, nt2520, w2521, LO2522, HI2523, MK2524, hv, hfk, hlk, hsk, hN80, hN87, hN88, hN93, hN91, hN92, hN110, hN111, pNtrI_0, hq525, hq526, hq527⟩
      · cases hv
        have h84 := hfk.get h84 (by decide)
        have h81 := hfk.get h81 (by decide)
        have h82 := hfk.get h82 (by decide)
        have ptrI_0 := pNtrI_0
        have hfr := hfr.tr hfk (by decide)
        have hlen := hlk.trans hlen
        have hsl := hsk.trans hsl
        have h80 := hN80
        have h87 := hN87
        have h88 := hN88
        have h93 := hN93
        have h91 := hN91
        have h92 := hN92
        have h110 := hN110
        have h111 := hN111
        change ab_W _ _ _ G490 108 [some (vR 80), some (vz (tpk A_tape m_taped m_at)), none, none] [] _
        refine ab_goto (tgt := 312) d_MO_readPart_108 (by decide) ?_
        refine ab_vret rfl d_MO_readPart_312 ?_
        rw [hQ]; exact (Or.inl ⟨_, _, _, _, _, _, _, _, _, _, _, _, _, _, _, _, _, _, _, _, _, _, ((a1_, b1_, c1_, d1_, (e1_ + z9501)) :: t1_), 1, z9501, SV2507, ((ao1_, (mnC ro1_ v9508)) :: ts1_), ro1_, v9508, na, nl, rfl, hfr, hlen, hsl, h80, h87, h88, h93, h91, h92, h110, h111, ptrI_0, (by omega), (by first | exact hq510 | exact rgs_w hq510 (by omega)), (by first | exact hq511 | exact rgs_w hq511 (by omega)), (by first | exact hq512 | exact rgs_w hq512 (by omega)), (by first | exact jns | exact rgs_w jns (by omega)), (by first | exact jnm | exact rgs_w jnm (by omega)), (by omega), (by exact jnj), (by exact stp_leaf hq513), (by exact ss_leaf hq514)⟩)
      · cases hv
        have h84 := hfk.get h84 (by decide)
        have h81 := hfk.get h81 (by decide)
        have h82 := hfk.get h82 (by decide)
        have ptrI_0 := pNtrI_0
        have hfr := hfr.tr hfk (by decide)
        have hlen := hlk.trans hlen
        have hsl := hsk.trans hsl
        have h80 := hN80
        have h87 := hN87
        have h88 := hN88
        have h93 := hN93
        have h91 := hN91
        have h92 := hN92
        have h110 := hN110
        have h111 := hN111
        change ab_W _ _ _ G490 108 [some (vR 80), some (vz (tpk A_tape m_taped m_at)), none, none] [] _
        refine ab_goto (tgt := 312) d_MO_readPart_108 (by decide) ?_
        refine ab_vret rfl d_MO_readPart_312 ?_
        rw [hQ]; exact (Or.inr ⟨_, _, _, _, _, _, _, _, _, _, _, _, _, _, _, _, _, _, _, _, _, _, ((a1_, b1_, c1_, d1_, e1_) :: t1_), rp, ls, SV, ((ao1_, ro1_) :: ts1_), ro, vv, rfl, hfr, hlen, hsl, h80, h87, h88, h93, h91, h92, h110, h111, ptrI_0, (by omega), (by first | exact hq526 | exact rgs_w hq526 (by omega)), (by first | exact jrl | exact rgs_w jrl (by omega)), (by first | exact jrh | exact rgs_w jrh (by omega)), (by first | exact jns | exact rgs_w jns (by omega)), (by first | exact jnm | exact rgs_w jnm (by omega)), (by exact stF_lf hq527)⟩)
    replace c489 : nzq (tpk A_tape m_taped m_at) 92 := c489
    by_cases c528 : (tpk A_tape m_taped m_at) = 94
    · refine zz_lookup (off := 149) (tgt := 156) d_MO_readPart_7 (by decide) (by omega) (by rw [c528]; decide) (by decide) ?_
      obtain ⟨K, O, Fi, Be, Le, Mo, Z, LZ, SM, SA, QF, QL, AF, AL, SD, OA, OF, ON, h94, h95, h96, h97, h98, h99, h100, h101, h90, h89, h105, h106, h107, h108, h109, h102, h103, h104, jk, jo, jfi, jbe, jle, jmo, jz, jlz, jsm, jsa, jqf, jql, jaf, jal, jsd, joa, jof, jon, jt, cnd, cre, crs, crz, ck5, ck6, ck7, jss, jsv⟩ := ptrI_0
      refine ab_aload_n d_MO_readPart_156 rfl ?_
      refine ab_aload_n d_MO_readPart_157 rfl ?_
      refine zz_iconst d_MO_readPart_158 ?_
      refine ab_aload_n d_MO_readPart_159 rfl ?_
      refine zz_iconst d_MO_readPart_160 ?_
      refine ab_callV (d' := d - 1) (as := [vz 2]) (st := [vz 3, vR 80, vR 80]) (r := _) (z2_MO_has (o := o) (m_thrown := m_thrown) (m_taped := m_taped) (m_length := m_length) (m_out := m_out) (m_wide := m_wide) (m_gathered := m_gathered) (m_sets := m_sets) (m_ranges := m_ranges) (m_nodes := m_nodes) (m_at := m_at) (m_flags := m_flags) (m_fault := m_fault) (m_place := m_place) (m_numbered := m_numbered) (m_depth := m_depth) (m_value := m_value) (m_isNot := m_isNot) (m_least0 := m_least0) (m_most0 := m_most0) (m_slot := m_slot) (m_work := m_work) (m_got := m_got) (m_rowMany := m_rowMany) (m_charAt := m_charAt) (m_charWide := m_charWide) (m_trail := m_trail) (m_isMatch := m_isMatch) (m_matchGroups := m_matchGroups) (m_allFrom := m_allFrom) (m_allBefore := m_allBefore) (m_founds := m_founds) (m_pieces := m_pieces) (m_writtenMany := m_writtenMany) (m_templateWide := m_templateWide) (m_tooMuch := m_tooMuch) h80 (by omega)) (fun oc G2 h => by rcases h with ⟨_, h, _⟩ <;> exact ⟨_, h⟩) (by omega) m_MO_has ml_MO_355 im_MO_has se_MO_has c_MO h80.2.2 (Nat.le_of_ble_eq_true rfl) d_MO_readPart_161 rfl ?_
      intro v G529 hq
      rcases hq with ⟨v530, hv, hGe, hq531, hq532⟩
      cases hv
      rw [hGe]
      change ab_W _ _ _ G 164 [some (vR 80), some (vz (tpk A_tape m_taped m_at)), none, none] [vz v530, vz 3, vR 80, vR 80] _
      refine zz_if_eq (tgt := 171) d_MO_readPart_164 (by decide) (by omega) (fun c533 => ?_) (fun c533 => ?_)
      · refine zz_iconst d_MO_readPart_171 ?_
        refine zz_lconst d_MO_readPart_172 ?_
        change ab_W _ _ _ G 173 [some (vR 80), some (vz (tpk A_tape m_taped m_at)), none, none] [vj 1, vz 0, vz 3, vR 80, vR 80] _
        refine ab_callV (d' := d - 1) (as := [vz 3, vz 0, vj 1]) (st := [vR 80]) (r := _) (z_MO_node (o := o) (m_thrown := m_thrown) (m_taped := m_taped) (m_length := m_length) (m_out := m_out) (m_wide := m_wide) (m_gathered := m_gathered) (m_sets := m_sets) (m_ranges := m_ranges) (m_nodes := m_nodes) (m_at := m_at) (m_flags := m_flags) (m_fault := m_fault) (m_place := m_place) (m_numbered := m_numbered) (m_depth := m_depth) (m_value := m_value) (m_isNot := m_isNot) (m_least0 := m_least0) (m_most0 := m_most0) (m_slot := m_slot) (m_work := m_work) (m_got := m_got) (m_rowMany := m_rowMany) (m_charAt := m_charAt) (m_charWide := m_charWide) (m_trail := m_trail) (m_isMatch := m_isMatch) (m_matchGroups := m_matchGroups) (m_allFrom := m_allFrom) (m_allBefore := m_allBefore) (m_founds := m_founds) (m_pieces := m_pieces) (m_writtenMany := m_writtenMany) (m_templateWide := m_templateWide) (m_tooMuch := m_tooMuch) (K := K) (O := O) (Fi := Fi) (Be := Be) (Z := Z) (k := 3) (w := 0) (zs := 1) h80 h94 h95 h96 h97 h100 (by omega) (by omega)) (fun oc G2 h => by rcases h with ⟨h, _⟩ <;> exact ⟨_, h⟩) (by omega) m_MO_node ml_MO_269 im_MO_node se_MO_node c_MO h80.2.2 (Nat.le_of_ble_eq_true rfl) d_MO_readPart_173 rfl ?_
        intro v G534 hq
        rcases hq with ⟨hv, hfk, hlk, hsk, hN80, hN94, hN95, hN96, hN97, hN100⟩
        cases hv
        have h84 := hfk.get h84 (by decide)
        have h87 := hfk.get h87 (by decide)
        have h88 := hfk.get h88 (by decide)
        have h93 := hfk.get h93 (by decide)
        have h81 := hfk.get h81 (by decide)
        have h82 := hfk.get h82 (by decide)
        have h91 := hfk.get h91 (by decide)
        have h92 := hfk.get h92 (by decide)
        have h110 := hfk.get h110 (by decide)
        have h111 := hfk.get h111 (by decide)
        have h98 := hfk.get h98 (by decide)
        have h99 := hfk.get h99 (by decide)
        have h101 := hfk.get h101 (by decide)
        have h90 := hfk.get h90 (by decide)
        have h89 := hfk.get h89 (by decide)
        have h105 := hfk.get h105 (by decide)
        have h106 := hfk.get h106 (by decide)
        have h107 := hfk.get h107 (by decide)
        have h108 := hfk.get h108 (by decide)
        have h109 := hfk.get h109 (by decide)
        have h102 := hfk.get h102 (by decide)
        have h103 := hfk.get h103 (by decide)
        have h104 := hfk.get h104 (by decide)
        have hfr := hfr.tr hfk (by decide)
        have hlen := hlk.trans hlen
        have hsl := hsk.trans hsl
        have h80 := hN80
        have h94 := hN94
        have h95 := hN95
        have h96 := hN96
        have h97 := hN97
        have h100 := hN100
        change ab_W _ _ _ G534 176 [some (vR 80), some (vz (tpk A_tape m_taped m_at)), none, none] [vz m_nodes, vR 80] _
        have ptrI_0 : trI o G534 0 (m_nodes + 1) m_sets (m_depth + 1) m_nodes 0 6 ((a1_, b1_, c1_, d1_, e1_) :: t1_) rp ls 1 SV ((ao1_, ro1_) :: ts1_) ro vv (mnQ (asq 0)) RL RH m_ranges 0 0 := ⟨(zu K m_nodes 3), (zu O m_nodes 0), (zu Fi m_nodes (-1)), (zu Be m_nodes (-1)), Le, Mo, (zu Z m_nodes 1), LZ, SM, SA, QF, QL, AF, AL, SD, OA, OF, ON, h94, h95, h96, h97, h98, h99, h100, h101, h90, h89, h105, h106, h107, h108, h109, h102, h103, h104, (rgs_zu jk (by omega)), (rgs_zu jo (by omega)), (rgs_zu jfi (by omega)), (rgs_zu jbe (by omega)), jle, jmo, (rgs_zu jz (by omega)), jlz, jsm, jsa, jqf, jql, jaf, jal, jsd, joa, jof, jon, (rtk_leaf jt (by omega) (Or.inr (Or.inr (Or.inr ⟨rfl, rfl, by omega, by omega⟩))) (Or.inr (Or.inr (Or.inr ⟨rfl, rfl⟩)))), (by omega), (fun h => absurd h (by decide)), (fun h => absurd h (by decide)), (fun h => absurd h (by decide)), (fun h => absurd h (by decide)), (fun _ => by rw [zu_self]; decide), (fun h => absurd h (by decide)), jss, jsv⟩
        refine zz_iconst d_MO_readPart_176 ?_
        refine ab_callV (d' := d - 1) (as := [vz m_nodes, vz 1]) (st := []) (r := _) (z1_MO_part (o := o) (m_thrown := m_thrown) (m_taped := m_taped) (m_length := m_length) (m_out := m_out) (m_wide := m_wide) (m_gathered := m_gathered) (m_sets := m_sets) (m_ranges := m_ranges) (m_nodes := (m_nodes + 1)) (m_at := m_at) (m_flags := m_flags) (m_fault := m_fault) (m_place := m_place) (m_numbered := m_numbered) (m_depth := m_depth) (m_value := m_value) (m_isNot := m_isNot) (m_least0 := m_least0) (m_most0 := m_most0) (m_slot := m_slot) (m_work := m_work) (m_got := m_got) (m_rowMany := m_rowMany) (m_charAt := m_charAt) (m_charWide := m_charWide) (m_trail := m_trail) (m_isMatch := m_isMatch) (m_matchGroups := m_matchGroups) (m_allFrom := m_allFrom) (m_allBefore := m_allBefore) (m_founds := m_founds) (m_pieces := m_pieces) (m_writtenMany := m_writtenMany) (m_templateWide := m_templateWide) (m_tooMuch := m_tooMuch) (x := m_nodes) (dh := 0) (rp := rp) (ls := ls) (dz := 1) (SV := SV) (ro := ro) (vv := vv) (dv := (mnQ (asq 0))) (a1_ := a1_) (b1_ := b1_) (c1_ := c1_) (d1_ := d1_) (e1_ := e1_) (nu9 := 0) (fo9 := 0) (t1_ := t1_) (ao1_ := ao1_) (ro1_ := ro1_) (ts1_ := ts1_) (RL := RL) (RH := RH) h80 ptrI_0 (by omega) (by omega) (by omega) (by omega)) (fun oc G2 h => by rcases h with ⟨h, _⟩ <;> exact ⟨_, h⟩) (by omega) m_MO_part ml_MO_375 im_MO_part se_MO_part c_MO h80.2.2 (Nat.le_of_ble_eq_true rfl) d_MO_readPart_177 rfl ?_
        intro v G535 hq
        rcases hq with ⟨hv, hfk, hlk, hsk, pNtrI_0⟩
        cases hv
        have h80 := hfk.get h80 (by decide)
        have h84 := hfk.get h84 (by decide)
        have h87 := hfk.get h87 (by decide)
        have h88 := hfk.get h88 (by decide)
        have h93 := hfk.get h93 (by decide)
        have h81 := hfk.get h81 (by decide)
        have h82 := hfk.get h82 (by decide)
        have h91 := hfk.get h91 (by decide)
        have h92 := hfk.get h92 (by decide)
        have h110 := hfk.get h110 (by decide)
        have h111 := hfk.get h111 (by decide)
        have ptrI_0 := pNtrI_0
        have hfr := hfr.tr hfk (by decide)
        have hlen := hlk.trans hlen
        have hsl := hsk.trans hsl
        change ab_W _ _ _ G535 180 [some (vR 80), some (vz (tpk A_tape m_taped m_at)), none, none] [] _
        refine ab_aload_n d_MO_readPart_180 rfl ?_
        refine ab_dup d_MO_readPart_181 rfl ?_
        refine ab_getf (fs := mof m_thrown m_taped m_length m_out m_wide m_gathered m_sets m_ranges (m_nodes + 1) m_at m_flags m_fault m_place m_numbered m_depth m_value m_isNot m_least0 m_most0 m_slot m_work m_got m_rowMany m_charAt m_charWide m_trail m_isMatch m_matchGroups m_allFrom m_allBefore m_founds m_pieces m_writtenMany m_templateWide m_tooMuch) f_MO_279 d_MO_readPart_182 h80.2.2 rfl ?_
        refine zz_iconst d_MO_readPart_185 ?_
        refine zz_iadd d_MO_readPart_186 ?_
        refine ab_putf (fs := mof m_thrown m_taped m_length m_out m_wide m_gathered m_sets m_ranges (m_nodes + 1) m_at m_flags m_fault m_place m_numbered m_depth m_value m_isNot m_least0 m_most0 m_slot m_work m_got m_rowMany m_charAt m_charWide m_trail m_isMatch m_matchGroups m_allFrom m_allBefore m_founds m_pieces m_writtenMany m_templateWide m_tooMuch) f_MO_279 (Or.inl rfl) d_MO_readPart_187 h80.2.2 (Nat.le_of_ble_eq_true rfl) (fun _ => ⟨rfl, rfl⟩) (h80.2.1 (by decide)) ?_
        obtain ⟨G536, eG536⟩ : ∃ z : ab_G, z = List.set G535 80 (ab_ob 12 (mof m_thrown m_taped m_length m_out m_wide m_gathered m_sets m_ranges (m_nodes + 1) (m_at + 1) m_flags m_fault m_place m_numbered m_depth m_value m_isNot m_least0 m_most0 m_slot m_work m_got m_rowMany m_charAt m_charWide m_trail m_isMatch m_matchGroups m_allFrom m_allBefore m_founds m_pieces m_writtenMany m_templateWide m_tooMuch)) := ⟨_, rfl⟩
        have h84 := h84.keep h80 eG536 (by decide)
        have h87 := h87.keep h80 eG536 (by decide)
        have h88 := h88.keep h80 eG536 (by decide)
        have h93 := h93.keep h80 eG536 (by decide)
        have h81 := h81.keep h80 eG536 (by decide)
        have h82 := h82.keep h80 eG536 (by decide)
        have h91 := h91.keep h80 eG536 (by decide)
        have h92 := h92.keep h80 eG536 (by decide)
        have h110 := h110.keep h80 eG536 (by decide)
        have h111 := h111.keep h80 eG536 (by decide)
        have hst := (fx.rf (o := o) (S := [280]) (G := G535)).wr h80 eG536 (List.mem_singleton.mpr rfl)
        have ptrI_0 := trI.fr hst ptrI_0 (by decide) (by decide) (by decide) (by decide) (by decide) (by decide) (by decide) (by decide) (by decide) (by decide) (by decide) (by decide) (by decide) (by decide) (by decide) (by decide) (by decide) (by decide)
        have hlen := (z_len eG536).trans hlen
        have hsl := (z_sl h80 eG536 rfl).trans hsl
        have hfr := hfr.wr h80 eG536 (by decide)
        have h80 := h80.kept eG536
        change ab_W _ _ _ (List.set G535 80 (ab_ob 12 (mof m_thrown m_taped m_length m_out m_wide m_gathered m_sets m_ranges (m_nodes + 1) (m_at + 1) m_flags m_fault m_place m_numbered m_depth m_value m_isNot m_least0 m_most0 m_slot m_work m_got m_rowMany m_charAt m_charWide m_trail m_isMatch m_matchGroups m_allFrom m_allBefore m_founds m_pieces m_writtenMany m_templateWide m_tooMuch))) 190 [some (vR 80), some (vz (tpk A_tape m_taped m_at)), none, none] [] _
        rw [← eG536]
        refine ab_goto (tgt := 312) d_MO_readPart_190 (by decide) ?_
        refine ab_vret rfl d_MO_readPart_312 ?_
        rw [hQ]; exact (Or.inl ⟨_, _, _, _, _, _, _, _, _, _, _, _, _, _, _, _, _, _, _, _, _, _, ((a1_, b1_, c1_, d1_, (e1_ + 1)) :: t1_), 1, 1, SV, ((ao1_, (mnC ro1_ (mnQ (asq 0)))) :: ts1_), ro1_, (mnQ (asq 0)), na, nl, rfl, hfr, hlen, hsl, h80, h87, h88, h93, h91, h92, h110, h111, ptrI_0, (by omega), (by first | exact jmk | exact rgs_w jmk (by omega)), (by first | exact jrl | exact rgs_w jrl (by omega)), (by first | exact jrh | exact rgs_w jrh (by omega)), (by first | exact jns | exact rgs_w jns (by omega)), (by first | exact jnm | exact rgs_w jnm (by omega)), (by omega), (by exact jnj), (by exact stp_leaf (Or.inr (Or.inr (Or.inr (Or.inr (Or.inl ⟨by omega, by omega, rfl⟩)))))), (by exact ss_leaf (Or.inr (Or.inr (Or.inr (Or.inr (Or.inl ⟨by omega, by omega, by rw [show m_flags / 2 % 2 = 0 by omega]; exact congrArg mnQ (by decide)⟩))))))⟩)
      · refine zz_iconst d_MO_readPart_167 ?_
        refine ab_goto (tgt := 172) d_MO_readPart_168 (by decide) ?_
        refine zz_lconst d_MO_readPart_172 ?_
        change ab_W _ _ _ G 173 [some (vR 80), some (vz (tpk A_tape m_taped m_at)), none, none] [vj 1, vz 4, vz 3, vR 80, vR 80] _
        refine ab_callV (d' := d - 1) (as := [vz 3, vz 4, vj 1]) (st := [vR 80]) (r := _) (z_MO_node (o := o) (m_thrown := m_thrown) (m_taped := m_taped) (m_length := m_length) (m_out := m_out) (m_wide := m_wide) (m_gathered := m_gathered) (m_sets := m_sets) (m_ranges := m_ranges) (m_nodes := m_nodes) (m_at := m_at) (m_flags := m_flags) (m_fault := m_fault) (m_place := m_place) (m_numbered := m_numbered) (m_depth := m_depth) (m_value := m_value) (m_isNot := m_isNot) (m_least0 := m_least0) (m_most0 := m_most0) (m_slot := m_slot) (m_work := m_work) (m_got := m_got) (m_rowMany := m_rowMany) (m_charAt := m_charAt) (m_charWide := m_charWide) (m_trail := m_trail) (m_isMatch := m_isMatch) (m_matchGroups := m_matchGroups) (m_allFrom := m_allFrom) (m_allBefore := m_allBefore) (m_founds := m_founds) (m_pieces := m_pieces) (m_writtenMany := m_writtenMany) (m_templateWide := m_templateWide) (m_tooMuch := m_tooMuch) (K := K) (O := O) (Fi := Fi) (Be := Be) (Z := Z) (k := 3) (w := 4) (zs := 1) h80 h94 h95 h96 h97 h100 (by omega) (by omega)) (fun oc G2 h => by rcases h with ⟨h, _⟩ <;> exact ⟨_, h⟩) (by omega) m_MO_node ml_MO_269 im_MO_node se_MO_node c_MO h80.2.2 (Nat.le_of_ble_eq_true rfl) d_MO_readPart_173 rfl ?_
        intro v G537 hq
        rcases hq with ⟨hv, hfk, hlk, hsk, hN80, hN94, hN95, hN96, hN97, hN100⟩
        cases hv
        have h84 := hfk.get h84 (by decide)
        have h87 := hfk.get h87 (by decide)
        have h88 := hfk.get h88 (by decide)
        have h93 := hfk.get h93 (by decide)
        have h81 := hfk.get h81 (by decide)
        have h82 := hfk.get h82 (by decide)
        have h91 := hfk.get h91 (by decide)
        have h92 := hfk.get h92 (by decide)
        have h110 := hfk.get h110 (by decide)
        have h111 := hfk.get h111 (by decide)
        have h98 := hfk.get h98 (by decide)
        have h99 := hfk.get h99 (by decide)
        have h101 := hfk.get h101 (by decide)
        have h90 := hfk.get h90 (by decide)
        have h89 := hfk.get h89 (by decide)
        have h105 := hfk.get h105 (by decide)
        have h106 := hfk.get h106 (by decide)
        have h107 := hfk.get h107 (by decide)
        have h108 := hfk.get h108 (by decide)
        have h109 := hfk.get h109 (by decide)
        have h102 := hfk.get h102 (by decide)
        have h103 := hfk.get h103 (by decide)
        have h104 := hfk.get h104 (by decide)
        have hfr := hfr.tr hfk (by decide)
        have hlen := hlk.trans hlen
        have hsl := hsk.trans hsl
        have h80 := hN80
        have h94 := hN94
        have h95 := hN95
        have h96 := hN96
        have h97 := hN97
        have h100 := hN100
        change ab_W _ _ _ G537 176 [some (vR 80), some (vz (tpk A_tape m_taped m_at)), none, none] [vz m_nodes, vR 80] _
        have ptrI_0 : trI o G537 0 (m_nodes + 1) m_sets (m_depth + 1) m_nodes 0 6 ((a1_, b1_, c1_, d1_, e1_) :: t1_) rp ls 1 SV ((ao1_, ro1_) :: ts1_) ro vv (mnQ (asq 4)) RL RH m_ranges 0 0 := ⟨(zu K m_nodes 3), (zu O m_nodes 4), (zu Fi m_nodes (-1)), (zu Be m_nodes (-1)), Le, Mo, (zu Z m_nodes 1), LZ, SM, SA, QF, QL, AF, AL, SD, OA, OF, ON, h94, h95, h96, h97, h98, h99, h100, h101, h90, h89, h105, h106, h107, h108, h109, h102, h103, h104, (rgs_zu jk (by omega)), (rgs_zu jo (by omega)), (rgs_zu jfi (by omega)), (rgs_zu jbe (by omega)), jle, jmo, (rgs_zu jz (by omega)), jlz, jsm, jsa, jqf, jql, jaf, jal, jsd, joa, jof, jon, (rtk_leaf jt (by omega) (Or.inr (Or.inr (Or.inr ⟨rfl, rfl, by omega, by omega⟩))) (Or.inr (Or.inr (Or.inr ⟨rfl, rfl⟩)))), (by omega), (fun h => absurd h (by decide)), (fun h => absurd h (by decide)), (fun h => absurd h (by decide)), (fun h => absurd h (by decide)), (fun _ => by rw [zu_self]; decide), (fun h => absurd h (by decide)), jss, jsv⟩
        refine zz_iconst d_MO_readPart_176 ?_
        refine ab_callV (d' := d - 1) (as := [vz m_nodes, vz 1]) (st := []) (r := _) (z1_MO_part (o := o) (m_thrown := m_thrown) (m_taped := m_taped) (m_length := m_length) (m_out := m_out) (m_wide := m_wide) (m_gathered := m_gathered) (m_sets := m_sets) (m_ranges := m_ranges) (m_nodes := (m_nodes + 1)) (m_at := m_at) (m_flags := m_flags) (m_fault := m_fault) (m_place := m_place) (m_numbered := m_numbered) (m_depth := m_depth) (m_value := m_value) (m_isNot := m_isNot) (m_least0 := m_least0) (m_most0 := m_most0) (m_slot := m_slot) (m_work := m_work) (m_got := m_got) (m_rowMany := m_rowMany) (m_charAt := m_charAt) (m_charWide := m_charWide) (m_trail := m_trail) (m_isMatch := m_isMatch) (m_matchGroups := m_matchGroups) (m_allFrom := m_allFrom) (m_allBefore := m_allBefore) (m_founds := m_founds) (m_pieces := m_pieces) (m_writtenMany := m_writtenMany) (m_templateWide := m_templateWide) (m_tooMuch := m_tooMuch) (x := m_nodes) (dh := 0) (rp := rp) (ls := ls) (dz := 1) (SV := SV) (ro := ro) (vv := vv) (dv := (mnQ (asq 4))) (a1_ := a1_) (b1_ := b1_) (c1_ := c1_) (d1_ := d1_) (e1_ := e1_) (nu9 := 0) (fo9 := 0) (t1_ := t1_) (ao1_ := ao1_) (ro1_ := ro1_) (ts1_ := ts1_) (RL := RL) (RH := RH) h80 ptrI_0 (by omega) (by omega) (by omega) (by omega)) (fun oc G2 h => by rcases h with ⟨h, _⟩ <;> exact ⟨_, h⟩) (by omega) m_MO_part ml_MO_375 im_MO_part se_MO_part c_MO h80.2.2 (Nat.le_of_ble_eq_true rfl) d_MO_readPart_177 rfl ?_
        intro v G538 hq
        rcases hq with ⟨hv, hfk, hlk, hsk, pNtrI_0⟩
        cases hv
        have h80 := hfk.get h80 (by decide)
        have h84 := hfk.get h84 (by decide)
        have h87 := hfk.get h87 (by decide)
        have h88 := hfk.get h88 (by decide)
        have h93 := hfk.get h93 (by decide)
        have h81 := hfk.get h81 (by decide)
        have h82 := hfk.get h82 (by decide)
        have h91 := hfk.get h91 (by decide)
        have h92 := hfk.get h92 (by decide)
        have h110 := hfk.get h110 (by decide)
        have h111 := hfk.get h111 (by decide)
        have ptrI_0 := pNtrI_0
        have hfr := hfr.tr hfk (by decide)
        have hlen := hlk.trans hlen
        have hsl := hsk.trans hsl
        change ab_W _ _ _ G538 180 [some (vR 80), some (vz (tpk A_tape m_taped m_at)), none, none] [] _
        refine ab_aload_n d_MO_readPart_180 rfl ?_
        refine ab_dup d_MO_readPart_181 rfl ?_
        refine ab_getf (fs := mof m_thrown m_taped m_length m_out m_wide m_gathered m_sets m_ranges (m_nodes + 1) m_at m_flags m_fault m_place m_numbered m_depth m_value m_isNot m_least0 m_most0 m_slot m_work m_got m_rowMany m_charAt m_charWide m_trail m_isMatch m_matchGroups m_allFrom m_allBefore m_founds m_pieces m_writtenMany m_templateWide m_tooMuch) f_MO_279 d_MO_readPart_182 h80.2.2 rfl ?_
        refine zz_iconst d_MO_readPart_185 ?_
        refine zz_iadd d_MO_readPart_186 ?_
        refine ab_putf (fs := mof m_thrown m_taped m_length m_out m_wide m_gathered m_sets m_ranges (m_nodes + 1) m_at m_flags m_fault m_place m_numbered m_depth m_value m_isNot m_least0 m_most0 m_slot m_work m_got m_rowMany m_charAt m_charWide m_trail m_isMatch m_matchGroups m_allFrom m_allBefore m_founds m_pieces m_writtenMany m_templateWide m_tooMuch) f_MO_279 (Or.inl rfl) d_MO_readPart_187 h80.2.2 (Nat.le_of_ble_eq_true rfl) (fun _ => ⟨rfl, rfl⟩) (h80.2.1 (by decide)) ?_
        obtain ⟨G539, eG539⟩ : ∃ z : ab_G, z = List.set G538 80 (ab_ob 12 (mof m_thrown m_taped m_length m_out m_wide m_gathered m_sets m_ranges (m_nodes + 1) (m_at + 1) m_flags m_fault m_place m_numbered m_depth m_value m_isNot m_least0 m_most0 m_slot m_work m_got m_rowMany m_charAt m_charWide m_trail m_isMatch m_matchGroups m_allFrom m_allBefore m_founds m_pieces m_writtenMany m_templateWide m_tooMuch)) := ⟨_, rfl⟩
        have h84 := h84.keep h80 eG539 (by decide)
        have h87 := h87.keep h80 eG539 (by decide)
        have h88 := h88.keep h80 eG539 (by decide)
        have h93 := h93.keep h80 eG539 (by decide)
        have h81 := h81.keep h80 eG539 (by decide)
        have h82 := h82.keep h80 eG539 (by decide)
        have h91 := h91.keep h80 eG539 (by decide)
        have h92 := h92.keep h80 eG539 (by decide)
        have h110 := h110.keep h80 eG539 (by decide)
        have h111 := h111.keep h80 eG539 (by decide)
        have hst := (fx.rf (o := o) (S := [280]) (G := G538)).wr h80 eG539 (List.mem_singleton.mpr rfl)
        have ptrI_0 := trI.fr hst ptrI_0 (by decide) (by decide) (by decide) (by decide) (by decide) (by decide) (by decide) (by decide) (by decide) (by decide) (by decide) (by decide) (by decide) (by decide) (by decide) (by decide) (by decide) (by decide)
        have hlen := (z_len eG539).trans hlen
        have hsl := (z_sl h80 eG539 rfl).trans hsl
        have hfr := hfr.wr h80 eG539 (by decide)
        have h80 := h80.kept eG539
        change ab_W _ _ _ (List.set G538 80 (ab_ob 12 (mof m_thrown m_taped m_length m_out m_wide m_gathered m_sets m_ranges (m_nodes + 1) (m_at + 1) m_flags m_fault m_place m_numbered m_depth m_value m_isNot m_least0 m_most0 m_slot m_work m_got m_rowMany m_charAt m_charWide m_trail m_isMatch m_matchGroups m_allFrom m_allBefore m_founds m_pieces m_writtenMany m_templateWide m_tooMuch))) 190 [some (vR 80), some (vz (tpk A_tape m_taped m_at)), none, none] [] _
        rw [← eG539]
        refine ab_goto (tgt := 312) d_MO_readPart_190 (by decide) ?_
        refine ab_vret rfl d_MO_readPart_312 ?_
        rw [hQ]; exact (Or.inl ⟨_, _, _, _, _, _, _, _, _, _, _, _, _, _, _, _, _, _, _, _, _, _, ((a1_, b1_, c1_, d1_, (e1_ + 1)) :: t1_), 1, 1, SV, ((ao1_, (mnC ro1_ (mnQ (asq 4)))) :: ts1_), ro1_, (mnQ (asq 4)), na, nl, rfl, hfr, hlen, hsl, h80, h87, h88, h93, h91, h92, h110, h111, ptrI_0, (by omega), (by first | exact jmk | exact rgs_w jmk (by omega)), (by first | exact jrl | exact rgs_w jrl (by omega)), (by first | exact jrh | exact rgs_w jrh (by omega)), (by first | exact jns | exact rgs_w jns (by omega)), (by first | exact jnm | exact rgs_w jnm (by omega)), (by omega), (by exact jnj), (by exact stp_leaf (Or.inr (Or.inr (Or.inr (Or.inr (Or.inl ⟨by omega, by omega, rfl⟩)))))), (by exact ss_leaf (Or.inr (Or.inr (Or.inr (Or.inr (Or.inl ⟨by omega, by omega, by rw [show m_flags / 2 % 2 = 1 by omega]; exact congrArg mnQ (by decide)⟩))))))⟩)
    replace c528 : nzq (tpk A_tape m_taped m_at) 94 := c528
    by_cases c540 : (tpk A_tape m_taped m_at) = 124
    · refine zz_lookup (off := 132) (tgt := 139) d_MO_readPart_7 (by decide) (by omega) (by rw [c540]; decide) (by decide) ?_
      refine ab_aload_n d_MO_readPart_139 rfl ?_
      refine ab_callV (d' := d - 1) (as := []) (st := []) (r := _) (z_MO_closeRow (o := o) (m_thrown := m_thrown) (m_taped := m_taped) (m_length := m_length) (m_out := m_out) (m_wide := m_wide) (m_gathered := m_gathered) (m_sets := m_sets) (m_ranges := m_ranges) (m_nodes := m_nodes) (m_at := m_at) (m_flags := m_flags) (m_fault := m_fault) (m_place := m_place) (m_numbered := m_numbered) (m_depth := m_depth) (m_value := m_value) (m_isNot := m_isNot) (m_least0 := m_least0) (m_most0 := m_most0) (m_slot := m_slot) (m_work := m_work) (m_got := m_got) (m_rowMany := m_rowMany) (m_charAt := m_charAt) (m_charWide := m_charWide) (m_trail := m_trail) (m_isMatch := m_isMatch) (m_matchGroups := m_matchGroups) (m_allFrom := m_allFrom) (m_allBefore := m_allBefore) (m_founds := m_founds) (m_pieces := m_pieces) (m_writtenMany := m_writtenMany) (m_templateWide := m_templateWide) (m_tooMuch := m_tooMuch) (re_ := 0) (rp := rp) (ls := ls) (SV := SV) (ro := ro) (vv := vv) (a1_ := a1_) (b1_ := b1_) (c1_ := c1_) (d1_ := d1_) (e1_ := e1_) (nu9 := 0) (fo9 := 0) (t1_ := t1_) (ao1_ := ao1_) (ro1_ := ro1_) (ts1_ := ts1_) (RL := RL) (RH := RH) h80 ptrI_0 (by omega) (by omega) (by omega) (by omega)) (fun oc G2 h => by rcases h with ⟨h, _⟩ <;> exact ⟨_, h⟩) (by omega) m_MO_closeRow ml_MO_292 im_MO_closeRow se_MO_closeRow c_MO h80.2.2 (Nat.le_of_ble_eq_true rfl) d_MO_readPart_140 rfl ?_
      intro v G541 hq
      rcases hq with ⟨hv, hfk, hlk, hsk, hN80, pNtrI_0⟩
      cases hv
      have h84 := hfk.get h84 (by decide)
      have h87 := hfk.get h87 (by decide)
      have h88 := hfk.get h88 (by decide)
      have h93 := hfk.get h93 (by decide)
      have h81 := hfk.get h81 (by decide)
      have h82 := hfk.get h82 (by decide)
      have h91 := hfk.get h91 (by decide)
      have h92 := hfk.get h92 (by decide)
      have h110 := hfk.get h110 (by decide)
      have h111 := hfk.get h111 (by decide)
      have ptrI_0 := pNtrI_0
      have hfr := hfr.tr hfk (by decide)
      have hlen := hlk.trans hlen
      have hsl := hsk.trans hsl
      have h80 := hN80
      change ab_W _ _ _ G541 143 [some (vR 80), some (vz (tpk A_tape m_taped m_at)), none, none] [] _
      obtain ⟨K, O, Fi, Be, Le, Mo, Z, LZ, SM, SA, QF, QL, AF, AL, SD, OA, OF, ON, h94, h95, h96, h97, h98, h99, h100, h101, h90, h89, h105, h106, h107, h108, h109, h102, h103, h104, jk, jo, jfi, jbe, jle, jmo, jz, jlz, jsm, jsa, jqf, jql, jaf, jal, jsd, joa, jof, jon, jt, cnd, cre, crs, crz, ck5, ck6, ck7, jss, jsv⟩ := ptrI_0
      have ptrI_0 : trI o G541 0 (m_nodes + 1) m_sets (m_depth + 1) (-1) 0 0 ((a1_, b1_, c1_, (d1_ + e1_ + 1), 0) :: t1_) 0 0 0 SV ((some (opO ao1_ ro1_), mnI) :: ts1_) mnI mnI mnI RL RH m_ranges 0 0 := ⟨K, O, Fi, Be, Le, Mo, Z, LZ, SM, SA, QF, QL, AF, AL, SD, OA, OF, ON, h94, h95, h96, h97, h98, h99, h100, h101, h90, h89, h105, h106, h107, h108, h109, h102, h103, h104, jk, jo, jfi, jbe, jle, jmo, jz, jlz, jsm, jsa, jqf, jql, jaf, jal, jsd, joa, jof, jon, jt, (by omega), (fun h => absurd h (by decide)), (fun h => absurd h (by decide)), (fun h => absurd h (by decide)), (fun h => absurd h (by decide)), (fun h => absurd h (by decide)), (fun h => absurd h (by decide)), jss, jsv⟩
      refine ab_aload_n d_MO_readPart_143 rfl ?_
      refine ab_dup d_MO_readPart_144 rfl ?_
      refine ab_getf (fs := mof m_thrown m_taped m_length m_out m_wide m_gathered m_sets m_ranges (m_nodes + 1) m_at m_flags m_fault m_place m_numbered m_depth m_value m_isNot m_least0 m_most0 m_slot m_work m_got m_rowMany m_charAt m_charWide m_trail m_isMatch m_matchGroups m_allFrom m_allBefore m_founds m_pieces m_writtenMany m_templateWide m_tooMuch) f_MO_279 d_MO_readPart_145 h80.2.2 rfl ?_
      refine zz_iconst d_MO_readPart_148 ?_
      refine zz_iadd d_MO_readPart_149 ?_
      refine ab_putf (fs := mof m_thrown m_taped m_length m_out m_wide m_gathered m_sets m_ranges (m_nodes + 1) m_at m_flags m_fault m_place m_numbered m_depth m_value m_isNot m_least0 m_most0 m_slot m_work m_got m_rowMany m_charAt m_charWide m_trail m_isMatch m_matchGroups m_allFrom m_allBefore m_founds m_pieces m_writtenMany m_templateWide m_tooMuch) f_MO_279 (Or.inl rfl) d_MO_readPart_150 h80.2.2 (Nat.le_of_ble_eq_true rfl) (fun _ => ⟨rfl, rfl⟩) (h80.2.1 (by decide)) ?_
      obtain ⟨G542, eG542⟩ : ∃ z : ab_G, z = List.set G541 80 (ab_ob 12 (mof m_thrown m_taped m_length m_out m_wide m_gathered m_sets m_ranges (m_nodes + 1) (m_at + 1) m_flags m_fault m_place m_numbered m_depth m_value m_isNot m_least0 m_most0 m_slot m_work m_got m_rowMany m_charAt m_charWide m_trail m_isMatch m_matchGroups m_allFrom m_allBefore m_founds m_pieces m_writtenMany m_templateWide m_tooMuch)) := ⟨_, rfl⟩
      have h84 := h84.keep h80 eG542 (by decide)
      have h87 := h87.keep h80 eG542 (by decide)
      have h88 := h88.keep h80 eG542 (by decide)
      have h93 := h93.keep h80 eG542 (by decide)
      have h81 := h81.keep h80 eG542 (by decide)
      have h82 := h82.keep h80 eG542 (by decide)
      have h91 := h91.keep h80 eG542 (by decide)
      have h92 := h92.keep h80 eG542 (by decide)
      have h110 := h110.keep h80 eG542 (by decide)
      have h111 := h111.keep h80 eG542 (by decide)
      have hst := (fx.rf (o := o) (S := [280]) (G := G541)).wr h80 eG542 (List.mem_singleton.mpr rfl)
      have ptrI_0 := trI.fr hst ptrI_0 (by decide) (by decide) (by decide) (by decide) (by decide) (by decide) (by decide) (by decide) (by decide) (by decide) (by decide) (by decide) (by decide) (by decide) (by decide) (by decide) (by decide) (by decide)
      have hlen := (z_len eG542).trans hlen
      have hsl := (z_sl h80 eG542 rfl).trans hsl
      have hfr := hfr.wr h80 eG542 (by decide)
      have h80 := h80.kept eG542
      change ab_W _ _ _ (List.set G541 80 (ab_ob 12 (mof m_thrown m_taped m_length m_out m_wide m_gathered m_sets m_ranges (m_nodes + 1) (m_at + 1) m_flags m_fault m_place m_numbered m_depth m_value m_isNot m_least0 m_most0 m_slot m_work m_got m_rowMany m_charAt m_charWide m_trail m_isMatch m_matchGroups m_allFrom m_allBefore m_founds m_pieces m_writtenMany m_templateWide m_tooMuch))) 153 [some (vR 80), some (vz (tpk A_tape m_taped m_at)), none, none] [] _
      rw [← eG542]
      refine ab_goto (tgt := 312) d_MO_readPart_153 (by decide) ?_
      refine ab_vret rfl d_MO_readPart_312 ?_
      rw [hQ]; exact (Or.inl ⟨_, _, _, _, _, _, _, _, _, _, _, _, _, _, _, _, _, _, _, _, _, _, ((a1_, b1_, c1_, (d1_ + e1_ + 1), 0) :: t1_), 0, 0, SV, ((some (opO ao1_ ro1_), mnI) :: ts1_), mnI, mnI, na, nl, rfl, hfr, hlen, hsl, h80, h87, h88, h93, h91, h92, h110, h111, ptrI_0, (by omega), (by first | exact jmk | exact rgs_w jmk (by omega)), (by first | exact jrl | exact rgs_w jrl (by omega)), (by first | exact jrh | exact rgs_w jrh (by omega)), (by first | exact jns | exact rgs_w jns (by omega)), (by first | exact jnm | exact rgs_w jnm (by omega)), (by omega), (by exact jnj), (by exact sb_bar (by omega)), (by exact ss_bar (by omega))⟩)
    replace c540 : nzq (tpk A_tape m_taped m_at) 124 := c540
    refine zz_lookup (off := 261) (tgt := 268) d_MO_readPart_7 (by decide) (by omega) (by simp only [Op.lookupswitch.offset]; rw [if_neg (fun h => c5 h.symm)]; rw [if_neg (fun h => c17 h.symm)]; rw [if_neg (fun h => c96 h.symm)]; rw [if_neg (fun h => c175 h.symm)]; rw [if_neg (fun h => c258 h.symm)]; rw [if_neg (fun h => c341 h.symm)]; rw [if_neg (fun h => c367 h.symm)]; rw [if_neg (fun h => c450 h.symm)]; rw [if_neg (fun h => c489 h.symm)]; rw [if_neg (fun h => c528 h.symm)]; rw [if_neg (fun h => c540 h.symm)]) (by decide) ?_
    refine ab_iload_n d_MO_readPart_268 rfl ?_
    refine zz_bipush d_MO_readPart_269 (by decide) ?_
    refine zz_icmp_ne (tgt := 281) d_MO_readPart_271 (by decide) (by omega) (by decide) (fun c544 => ?_) (fun c544 => ?_)
    · replace c544 : nzq (tpk A_tape m_taped m_at) 123 := c544
      refine zz_iconst d_MO_readPart_281 ?_
      refine ab_istore_n d_MO_readPart_282 (Nat.le_of_ble_eq_true rfl) (Nat.le_of_ble_eq_true rfl) rfl ?_
      change ab_W _ _ _ G 283 [some (vR 80), some (vz (tpk A_tape m_taped m_at)), some (vz (-1)), none] [] _
      refine ab_iload_n d_MO_readPart_283 rfl ?_
      refine zz_if_le (tgt := 295) d_MO_readPart_284 (by decide) (by decide) (fun c545 => ?_) (fun c545 => absurd c545 (by decide))
      refine ab_aload_n d_MO_readPart_295 rfl ?_
      refine ab_callV (d' := d - 1) (as := []) (st := []) (r := _) (z_MO_plain (o := o) (m_thrown := m_thrown) (m_taped := m_taped) (m_length := m_length) (m_out := m_out) (m_wide := m_wide) (m_gathered := m_gathered) (m_sets := m_sets) (m_ranges := m_ranges) (m_nodes := m_nodes) (m_at := m_at) (m_flags := m_flags) (m_fault := m_fault) (m_place := m_place) (m_numbered := m_numbered) (m_depth := m_depth) (m_value := m_value) (m_isNot := m_isNot) (m_least0 := m_least0) (m_most0 := m_most0) (m_slot := m_slot) (m_work := m_work) (m_got := m_got) (m_rowMany := m_rowMany) (m_charAt := m_charAt) (m_charWide := m_charWide) (m_trail := m_trail) (m_isMatch := m_isMatch) (m_matchGroups := m_matchGroups) (m_allFrom := m_allFrom) (m_allBefore := m_allBefore) (m_founds := m_founds) (m_pieces := m_pieces) (m_writtenMany := m_writtenMany) (m_templateWide := m_templateWide) (m_tooMuch := m_tooMuch) (A_tape := A_tape) h80 h84 (by omega) (by omega) jtp (by omega) (by omega) (by omega)) (fun oc G2 h => by rcases h with ⟨_, _, _, h, _⟩ | ⟨_, _, _, h, _⟩ <;> exact ⟨_, h⟩) (by omega) m_MO_plain ml_MO_348 im_MO_plain se_MO_plain c_MO h80.2.2 (Nat.le_of_ble_eq_true rfl) d_MO_readPart_296 rfl ?_
      intro v G546 hq
      rcases hq with ⟨w2547, f2548, p2549, hv, hfk, hlk, hsk, hN80, hq550, hq551, hq552⟩ | ⟨v553, w2554, a2555, hv, hfk, hlk, hsk, hN80, hq556, hq557, hq558⟩
      · cases hv
        have h84 := hfk.get h84 (by decide)
        have h87 := hfk.get h87 (by decide)
        have h88 := hfk.get h88 (by decide)
        have h93 := hfk.get h93 (by decide)
        have h81 := hfk.get h81 (by decide)
        have h82 := hfk.get h82 (by decide)
        have h91 := hfk.get h91 (by decide)
        have h92 := hfk.get h92 (by decide)
        have h110 := hfk.get h110 (by decide)
        have h111 := hfk.get h111 (by decide)
        have ptrI_0 := trI.fr hfk ptrI_0 (by decide) (by decide) (by decide) (by decide) (by decide) (by decide) (by decide) (by decide) (by decide) (by decide) (by decide) (by decide) (by decide) (by decide) (by decide) (by decide) (by decide) (by decide)
        have hfr := hfr.tr hfk (by decide)
        have hlen := hlk.trans hlen
        have hsl := hsk.trans hsl
        have h80 := hN80
        change ab_W _ _ _ G546 299 [some (vR 80), some (vz (tpk A_tape m_taped m_at)), some (vz (-1)), none] [vz (-1)] _
        refine ab_istore_n d_MO_readPart_299 (Nat.le_of_ble_eq_true rfl) (Nat.le_of_ble_eq_true rfl) rfl ?_
        change ab_W _ _ _ G546 300 [some (vR 80), some (vz (tpk A_tape m_taped m_at)), some (vz (-1)), some (vz (-1))] [] _
        refine ab_aload_n d_MO_readPart_300 rfl ?_
        refine ab_getf (fs := mof m_thrown m_taped m_length m_out w2547 m_gathered m_sets m_ranges m_nodes m_at m_flags f2548 p2549 m_numbered m_depth m_value m_isNot m_least0 m_most0 m_slot m_work m_got m_rowMany m_charAt m_charWide m_trail m_isMatch m_matchGroups m_allFrom m_allBefore m_founds m_pieces m_writtenMany m_templateWide m_tooMuch) f_MO_273 d_MO_readPart_301 h80.2.2 rfl ?_
        refine zz_if_ne (tgt := 312) d_MO_readPart_304 (by decide) (by omega) (fun c559 => ?_) (fun c559 => absurd c559 (by omega))
        refine ab_vret rfl d_MO_readPart_312 ?_
        rw [hQ]; exact (Or.inr ⟨_, _, _, _, _, _, _, _, _, _, _, _, _, _, _, _, _, _, _, _, _, _, ((a1_, b1_, c1_, d1_, e1_) :: t1_), rp, ls, SV, ((ao1_, ro1_) :: ts1_), ro, vv, rfl, hfr, hlen, hsl, h80, h87, h88, h93, h91, h92, h110, h111, ptrI_0, (by omega), (by first | exact jmk | exact rgs_w jmk (by omega)), (by first | exact jrl | exact rgs_w jrl (by omega)), (by first | exact jrh | exact rgs_w jrh (by omega)), (by first | exact jns | exact rgs_w jns (by omega)), (by first | exact jnm | exact rgs_w jnm (by omega)), (by exact stF_lf (Or.inr (Or.inr ⟨⟨by omega, c489, c450, c17, c96, c341, c528, c5, c540⟩, (norp_sign ⟨c175, c258, c367, c544⟩), hq552, by omega, by omega⟩)))⟩)
      · cases hv
        have h84 := hfk.get h84 (by decide)
        have h87 := hfk.get h87 (by decide)
        have h88 := hfk.get h88 (by decide)
        have h93 := hfk.get h93 (by decide)
        have h81 := hfk.get h81 (by decide)
        have h82 := hfk.get h82 (by decide)
        have h91 := hfk.get h91 (by decide)
        have h92 := hfk.get h92 (by decide)
        have h110 := hfk.get h110 (by decide)
        have h111 := hfk.get h111 (by decide)
        have ptrI_0 := trI.fr hfk ptrI_0 (by decide) (by decide) (by decide) (by decide) (by decide) (by decide) (by decide) (by decide) (by decide) (by decide) (by decide) (by decide) (by decide) (by decide) (by decide) (by decide) (by decide) (by decide)
        have hfr := hfr.tr hfk (by decide)
        have hlen := hlk.trans hlen
        have hsl := hsk.trans hsl
        have h80 := hN80
        change ab_W _ _ _ G546 299 [some (vR 80), some (vz (tpk A_tape m_taped m_at)), some (vz (-1)), none] [vz v553] _
        refine ab_istore_n d_MO_readPart_299 (Nat.le_of_ble_eq_true rfl) (Nat.le_of_ble_eq_true rfl) rfl ?_
        change ab_W _ _ _ G546 300 [some (vR 80), some (vz (tpk A_tape m_taped m_at)), some (vz (-1)), some (vz v553)] [] _
        refine ab_aload_n d_MO_readPart_300 rfl ?_
        refine ab_getf (fs := mof m_thrown m_taped m_length m_out w2554 m_gathered m_sets m_ranges m_nodes a2555 m_flags m_fault m_place m_numbered m_depth m_value m_isNot m_least0 m_most0 m_slot m_work m_got m_rowMany m_charAt m_charWide m_trail m_isMatch m_matchGroups m_allFrom m_allBefore m_founds m_pieces m_writtenMany m_templateWide m_tooMuch) f_MO_273 d_MO_readPart_301 h80.2.2 rfl ?_
        refine zz_if_ne (tgt := 312) d_MO_readPart_304 (by decide) (by omega) (fun c560 => absurd c560 (by omega)) (fun c560 => ?_)
        refine ab_aload_n d_MO_readPart_307 rfl ?_
        refine ab_iload_n d_MO_readPart_308 rfl ?_
        refine ab_callV (d' := d - 1) (as := [vz v553]) (st := []) (r := _) (z_MO_readCharacter (o := o) (m_thrown := m_thrown) (m_taped := m_taped) (m_length := m_length) (m_out := m_out) (m_wide := w2554) (m_gathered := m_gathered) (m_sets := m_sets) (m_ranges := m_ranges) (m_nodes := m_nodes) (m_at := a2555) (m_flags := m_flags) (m_fault := m_fault) (m_place := m_place) (m_numbered := m_numbered) (m_depth := m_depth) (m_value := m_value) (m_isNot := m_isNot) (m_least0 := m_least0) (m_most0 := m_most0) (m_slot := m_slot) (m_work := m_work) (m_got := m_got) (m_rowMany := m_rowMany) (m_charAt := m_charAt) (m_charWide := m_charWide) (m_trail := m_trail) (m_isMatch := m_isMatch) (m_matchGroups := m_matchGroups) (m_allFrom := m_allFrom) (m_allBefore := m_allBefore) (m_founds := m_founds) (m_pieces := m_pieces) (m_writtenMany := m_writtenMany) (m_templateWide := m_templateWide) (m_tooMuch := m_tooMuch) (A_tape := A_tape) (LO := LO) (HI := HI) (MK := MK) (RL := RL) (RH := RH) (NS := NS) (NM := NM) (rp := rp) (ls := ls) (SV := SV) (ro := ro) (vv := vv) (a1_ := a1_) (b1_ := b1_) (c1_ := c1_) (d1_ := d1_) (e1_ := e1_) (t1_ := t1_) (ao1_ := ao1_) (ro1_ := ro1_) (ts1_ := ts1_) (c := v553) h80 h84 h87 h88 h93 h81 h82 h91 h92 h110 h111 ptrI_0 (by omega) (by omega) jtp jmk jrl jrh jns jnm (by omega) (by omega) (by omega) (by omega) (by omega) (by omega)) (fun oc G2 h => by rcases h with ⟨_, _, _, _, _, _, _, _, _, _, _, _, _, _, _, _, _, _, h, _⟩ <;> exact ⟨_, h⟩) (by omega) m_MO_readCharacter ml_MO_378 im_MO_readCharacter se_MO_readCharacter c_MO h80.2.2 (Nat.le_of_ble_eq_true rfl) d_MO_readPart_309 rfl ?_
        intro v G561 hq
        rcases hq with ⟨a2562, g2563, s2564, r2565, n2566, v2567, nt2568, w2569, f2570, p2571, z9572, LO2573, HI2574, MK2575, RL2576, RH2577, SV2578, v9579, hv, hfk, hlk, hsk, hN80, hN87, hN88, hN93, hN91, hN92, hN110, hN111, pNtrI_0, hq580, hq581, hq582, hq583, hq584, hq585⟩
        cases hv
        have h84 := hfk.get h84 (by decide)
        have h81 := hfk.get h81 (by decide)
        have h82 := hfk.get h82 (by decide)
        have ptrI_0 := pNtrI_0
        have hfr := hfr.tr hfk (by decide)
        have hlen := hlk.trans hlen
        have hsl := hsk.trans hsl
        have h80 := hN80
        have h87 := hN87
        have h88 := hN88
        have h93 := hN93
        have h91 := hN91
        have h92 := hN92
        have h110 := hN110
        have h111 := hN111
        change ab_W _ _ _ G561 312 [some (vR 80), some (vz (tpk A_tape m_taped m_at)), some (vz (-1)), some (vz v553)] [] _
        refine ab_vret rfl d_MO_readPart_312 ?_
        rw [hQ]; exact (Or.inl ⟨_, _, _, _, _, _, _, _, _, _, _, _, _, _, _, _, _, _, _, _, _, _, ((a1_, b1_, c1_, d1_, (e1_ + z9572)) :: t1_), 1, z9572, SV2578, ((ao1_, (mnC ro1_ v9579)) :: ts1_), ro1_, v9579, na, nl, rfl, hfr, hlen, hsl, h80, h87, h88, h93, h91, h92, h110, h111, ptrI_0, (by omega), (by first | exact hq581 | exact rgs_w hq581 (by omega)), (by first | exact hq582 | exact rgs_w hq582 (by omega)), (by first | exact hq583 | exact rgs_w hq583 (by omega)), (by first | exact jns | exact rgs_w jns (by omega)), (by first | exact jnm | exact rgs_w jnm (by omega)), (by omega), (by exact jnj), (by exact stp_leaf (Or.inr (Or.inr (Or.inr (Or.inr (Or.inr ⟨⟨by omega, c489, c450, c17, c96, c341, c528, c5, c540⟩, (norp_sign ⟨c175, c258, c367, c544⟩), by rw [← hq557]; omega, by rw [← hq557]; omega, by rw [← hq557]; exact hq584⟩)))))), (by exact ss_leaf (Or.inr (Or.inr (Or.inr (Or.inr (Or.inr (Or.inr ⟨⟨by omega, c489, c450, c17, c96, c341, c528, c5, c540⟩, by rw [← hq557]; omega, by rw [← hq557]; omega, by rw [← hq557]; exact hq585⟩)))))))⟩)
    · refine ab_aload_n d_MO_readPart_274 rfl ?_
      refine ab_callV (d' := d - 1) (as := []) (st := []) (r := _) (z_MO_numbersEnd (o := o) (m_thrown := m_thrown) (m_taped := m_taped) (m_length := m_length) (m_out := m_out) (m_wide := m_wide) (m_gathered := m_gathered) (m_sets := m_sets) (m_ranges := m_ranges) (m_nodes := m_nodes) (m_at := m_at) (m_flags := m_flags) (m_fault := m_fault) (m_place := m_place) (m_numbered := m_numbered) (m_depth := m_depth) (m_value := m_value) (m_isNot := m_isNot) (m_least0 := m_least0) (m_most0 := m_most0) (m_slot := m_slot) (m_work := m_work) (m_got := m_got) (m_rowMany := m_rowMany) (m_charAt := m_charAt) (m_charWide := m_charWide) (m_trail := m_trail) (m_isMatch := m_isMatch) (m_matchGroups := m_matchGroups) (m_allFrom := m_allFrom) (m_allBefore := m_allBefore) (m_founds := m_founds) (m_pieces := m_pieces) (m_writtenMany := m_writtenMany) (m_templateWide := m_templateWide) (m_tooMuch := m_tooMuch) (A_tape := A_tape) h80 h84 (by omega) (by omega) jtp (by omega) (by omega) (by omega)) (fun oc G2 h => by rcases h with ⟨_, _, h, _⟩ | ⟨_, _, _, _, h, _⟩ <;> exact ⟨_, h⟩) (by omega) m_MO_numbersEnd ml_MO_430 im_MO_numbersEnd se_MO_numbersEnd c_MO h80.2.2 (Nat.le_of_ble_eq_true rfl) d_MO_readPart_275 rfl ?_
      intro v G586 hq
      rcases hq with ⟨le2587, mo2588, hv, hfk, hlk, hsk, hN80, hq589⟩ | ⟨k2590, le2591, mo2592, m9593, hv, hfk, hlk, hsk, hN80, hq594, hq595, hq596⟩
      · cases hv
        have h84 := hfk.get h84 (by decide)
        have h87 := hfk.get h87 (by decide)
        have h88 := hfk.get h88 (by decide)
        have h93 := hfk.get h93 (by decide)
        have h81 := hfk.get h81 (by decide)
        have h82 := hfk.get h82 (by decide)
        have h91 := hfk.get h91 (by decide)
        have h92 := hfk.get h92 (by decide)
        have h110 := hfk.get h110 (by decide)
        have h111 := hfk.get h111 (by decide)
        have ptrI_0 := trI.fr hfk ptrI_0 (by decide) (by decide) (by decide) (by decide) (by decide) (by decide) (by decide) (by decide) (by decide) (by decide) (by decide) (by decide) (by decide) (by decide) (by decide) (by decide) (by decide) (by decide)
        have hfr := hfr.tr hfk (by decide)
        have hlen := hlk.trans hlen
        have hsl := hsk.trans hsl
        have h80 := hN80
        change ab_W _ _ _ G586 278 [some (vR 80), some (vz (tpk A_tape m_taped m_at)), none, none] [vz (-1)] _
        refine ab_goto (tgt := 282) d_MO_readPart_278 (by decide) ?_
        refine ab_istore_n d_MO_readPart_282 (Nat.le_of_ble_eq_true rfl) (Nat.le_of_ble_eq_true rfl) rfl ?_
        change ab_W _ _ _ G586 283 [some (vR 80), some (vz (tpk A_tape m_taped m_at)), some (vz (-1)), none] [] _
        refine ab_iload_n d_MO_readPart_283 rfl ?_
        refine zz_if_le (tgt := 295) d_MO_readPart_284 (by decide) (by decide) (fun c597 => ?_) (fun c597 => absurd c597 (by decide))
        refine ab_aload_n d_MO_readPart_295 rfl ?_
        refine ab_callV (d' := d - 1) (as := []) (st := []) (r := _) (z_MO_plain (o := o) (m_thrown := m_thrown) (m_taped := m_taped) (m_length := m_length) (m_out := m_out) (m_wide := m_wide) (m_gathered := m_gathered) (m_sets := m_sets) (m_ranges := m_ranges) (m_nodes := m_nodes) (m_at := m_at) (m_flags := m_flags) (m_fault := m_fault) (m_place := m_place) (m_numbered := m_numbered) (m_depth := m_depth) (m_value := m_value) (m_isNot := m_isNot) (m_least0 := le2587) (m_most0 := mo2588) (m_slot := m_slot) (m_work := m_work) (m_got := m_got) (m_rowMany := m_rowMany) (m_charAt := m_charAt) (m_charWide := m_charWide) (m_trail := m_trail) (m_isMatch := m_isMatch) (m_matchGroups := m_matchGroups) (m_allFrom := m_allFrom) (m_allBefore := m_allBefore) (m_founds := m_founds) (m_pieces := m_pieces) (m_writtenMany := m_writtenMany) (m_templateWide := m_templateWide) (m_tooMuch := m_tooMuch) (A_tape := A_tape) h80 h84 (by omega) (by omega) jtp (by omega) (by omega) (by omega)) (fun oc G2 h => by rcases h with ⟨_, _, _, h, _⟩ | ⟨_, _, _, h, _⟩ <;> exact ⟨_, h⟩) (by omega) m_MO_plain ml_MO_348 im_MO_plain se_MO_plain c_MO h80.2.2 (Nat.le_of_ble_eq_true rfl) d_MO_readPart_296 rfl ?_
        intro v G598 hq
        rcases hq with ⟨w2599, f2600, p2601, hv, hfk, hlk, hsk, hN80, hq602, hq603, hq604⟩ | ⟨v605, w2606, a2607, hv, hfk, hlk, hsk, hN80, hq608, hq609, hq610⟩
        · cases hv
          have h84 := hfk.get h84 (by decide)
          have h87 := hfk.get h87 (by decide)
          have h88 := hfk.get h88 (by decide)
          have h93 := hfk.get h93 (by decide)
          have h81 := hfk.get h81 (by decide)
          have h82 := hfk.get h82 (by decide)
          have h91 := hfk.get h91 (by decide)
          have h92 := hfk.get h92 (by decide)
          have h110 := hfk.get h110 (by decide)
          have h111 := hfk.get h111 (by decide)
          have ptrI_0 := trI.fr hfk ptrI_0 (by decide) (by decide) (by decide) (by decide) (by decide) (by decide) (by decide) (by decide) (by decide) (by decide) (by decide) (by decide) (by decide) (by decide) (by decide) (by decide) (by decide) (by decide)
          have hfr := hfr.tr hfk (by decide)
          have hlen := hlk.trans hlen
          have hsl := hsk.trans hsl
          have h80 := hN80
          change ab_W _ _ _ G598 299 [some (vR 80), some (vz (tpk A_tape m_taped m_at)), some (vz (-1)), none] [vz (-1)] _
          refine ab_istore_n d_MO_readPart_299 (Nat.le_of_ble_eq_true rfl) (Nat.le_of_ble_eq_true rfl) rfl ?_
          change ab_W _ _ _ G598 300 [some (vR 80), some (vz (tpk A_tape m_taped m_at)), some (vz (-1)), some (vz (-1))] [] _
          refine ab_aload_n d_MO_readPart_300 rfl ?_
          refine ab_getf (fs := mof m_thrown m_taped m_length m_out w2599 m_gathered m_sets m_ranges m_nodes m_at m_flags f2600 p2601 m_numbered m_depth m_value m_isNot le2587 mo2588 m_slot m_work m_got m_rowMany m_charAt m_charWide m_trail m_isMatch m_matchGroups m_allFrom m_allBefore m_founds m_pieces m_writtenMany m_templateWide m_tooMuch) f_MO_273 d_MO_readPart_301 h80.2.2 rfl ?_
          refine zz_if_ne (tgt := 312) d_MO_readPart_304 (by decide) (by omega) (fun c611 => ?_) (fun c611 => absurd c611 (by omega))
          refine ab_vret rfl d_MO_readPart_312 ?_
          rw [hQ]; exact (Or.inr ⟨_, _, _, _, _, _, _, _, _, _, _, _, _, _, _, _, _, _, _, _, _, _, ((a1_, b1_, c1_, d1_, e1_) :: t1_), rp, ls, SV, ((ao1_, ro1_) :: ts1_), ro, vv, rfl, hfr, hlen, hsl, h80, h87, h88, h93, h91, h92, h110, h111, ptrI_0, (by omega), (by first | exact jmk | exact rgs_w jmk (by omega)), (by first | exact jrl | exact rgs_w jrl (by omega)), (by first | exact jrh | exact rgs_w jrh (by omega)), (by first | exact jns | exact rgs_w jns (by omega)), (by first | exact jnm | exact rgs_w jnm (by omega)), (by exact stF_lf (Or.inr (Or.inr ⟨⟨by omega, c489, c450, c17, c96, c341, c528, c5, c540⟩, hq589, hq604, by omega, by omega⟩)))⟩)
        · cases hv
          have h84 := hfk.get h84 (by decide)
          have h87 := hfk.get h87 (by decide)
          have h88 := hfk.get h88 (by decide)
          have h93 := hfk.get h93 (by decide)
          have h81 := hfk.get h81 (by decide)
          have h82 := hfk.get h82 (by decide)
          have h91 := hfk.get h91 (by decide)
          have h92 := hfk.get h92 (by decide)
          have h110 := hfk.get h110 (by decide)
          have h111 := hfk.get h111 (by decide)
          have ptrI_0 := trI.fr hfk ptrI_0 (by decide) (by decide) (by decide) (by decide) (by decide) (by decide) (by decide) (by decide) (by decide) (by decide) (by decide) (by decide) (by decide) (by decide) (by decide) (by decide) (by decide) (by decide)
          have hfr := hfr.tr hfk (by decide)
          have hlen := hlk.trans hlen
          have hsl := hsk.trans hsl
          have h80 := hN80
          change ab_W _ _ _ G598 299 [some (vR 80), some (vz (tpk A_tape m_taped m_at)), some (vz (-1)), none] [vz v605] _
          refine ab_istore_n d_MO_readPart_299 (Nat.le_of_ble_eq_true rfl) (Nat.le_of_ble_eq_true rfl) rfl ?_
          change ab_W _ _ _ G598 300 [some (vR 80), some (vz (tpk A_tape m_taped m_at)), some (vz (-1)), some (vz v605)] [] _
          refine ab_aload_n d_MO_readPart_300 rfl ?_
          refine ab_getf (fs := mof m_thrown m_taped m_length m_out w2606 m_gathered m_sets m_ranges m_nodes a2607 m_flags m_fault m_place m_numbered m_depth m_value m_isNot le2587 mo2588 m_slot m_work m_got m_rowMany m_charAt m_charWide m_trail m_isMatch m_matchGroups m_allFrom m_allBefore m_founds m_pieces m_writtenMany m_templateWide m_tooMuch) f_MO_273 d_MO_readPart_301 h80.2.2 rfl ?_
          refine zz_if_ne (tgt := 312) d_MO_readPart_304 (by decide) (by omega) (fun c612 => absurd c612 (by omega)) (fun c612 => ?_)
          refine ab_aload_n d_MO_readPart_307 rfl ?_
          refine ab_iload_n d_MO_readPart_308 rfl ?_
          refine ab_callV (d' := d - 1) (as := [vz v605]) (st := []) (r := _) (z_MO_readCharacter (o := o) (m_thrown := m_thrown) (m_taped := m_taped) (m_length := m_length) (m_out := m_out) (m_wide := w2606) (m_gathered := m_gathered) (m_sets := m_sets) (m_ranges := m_ranges) (m_nodes := m_nodes) (m_at := a2607) (m_flags := m_flags) (m_fault := m_fault) (m_place := m_place) (m_numbered := m_numbered) (m_depth := m_depth) (m_value := m_value) (m_isNot := m_isNot) (m_least0 := le2587) (m_most0 := mo2588) (m_slot := m_slot) (m_work := m_work) (m_got := m_got) (m_rowMany := m_rowMany) (m_charAt := m_charAt) (m_charWide := m_charWide) (m_trail := m_trail) (m_isMatch := m_isMatch) (m_matchGroups := m_matchGroups) (m_allFrom := m_allFrom) (m_allBefore := m_allBefore) (m_founds := m_founds) (m_pieces := m_pieces) (m_writtenMany := m_writtenMany) (m_templateWide := m_templateWide) (m_tooMuch := m_tooMuch) (A_tape := A_tape) (LO := LO) (HI := HI) (MK := MK) (RL := RL) (RH := RH) (NS := NS) (NM := NM) (rp := rp) (ls := ls) (SV := SV) (ro := ro) (vv := vv) (a1_ := a1_) (b1_ := b1_) (c1_ := c1_) (d1_ := d1_) (e1_ := e1_) (t1_ := t1_) (ao1_ := ao1_) (ro1_ := ro1_) (ts1_ := ts1_) (c := v605) h80 h84 h87 h88 h93 h81 h82 h91 h92 h110 h111 ptrI_0 (by omega) (by omega) jtp jmk jrl jrh jns jnm (by omega) (by omega) (by omega) (by omega) (by omega) (by omega)) (fun oc G2 h => by rcases h with ⟨_, _, _, _, _, _, _, _, _, _, _, _, _, _, _, _, _, _, h, _⟩ <;> exact ⟨_, h⟩) (by omega) m_MO_readCharacter ml_MO_378 im_MO_readCharacter se_MO_readCharacter c_MO h80.2.2 (Nat.le_of_ble_eq_true rfl) d_MO_readPart_309 rfl ?_
          intro v G613 hq
          rcases hq with ⟨a2614, g2615, s2616, r2617, n2618, v2619, nt2620, w2621, f2622, p2623, z9624, LO2625, HI2626, MK2627, RL2628, RH2629, SV2630, v9631, hv, hfk, hlk, hsk, hN80, hN87, hN88, hN93, hN91, hN92, hN110, hN111, pNtrI_0, hq632, hq633, hq634, hq635, hq636, hq637⟩
          cases hv
          have h84 := hfk.get h84 (by decide)
          have h81 := hfk.get h81 (by decide)
          have h82 := hfk.get h82 (by decide)
          have ptrI_0 := pNtrI_0
          have hfr := hfr.tr hfk (by decide)
          have hlen := hlk.trans hlen
          have hsl := hsk.trans hsl
          have h80 := hN80
          have h87 := hN87
          have h88 := hN88
          have h93 := hN93
          have h91 := hN91
          have h92 := hN92
          have h110 := hN110
          have h111 := hN111
          change ab_W _ _ _ G613 312 [some (vR 80), some (vz (tpk A_tape m_taped m_at)), some (vz (-1)), some (vz v605)] [] _
          refine ab_vret rfl d_MO_readPart_312 ?_
          rw [hQ]; exact (Or.inl ⟨_, _, _, _, _, _, _, _, _, _, _, _, _, _, _, _, _, _, _, _, _, _, ((a1_, b1_, c1_, d1_, (e1_ + z9624)) :: t1_), 1, z9624, SV2630, ((ao1_, (mnC ro1_ v9631)) :: ts1_), ro1_, v9631, na, nl, rfl, hfr, hlen, hsl, h80, h87, h88, h93, h91, h92, h110, h111, ptrI_0, (by omega), (by first | exact hq633 | exact rgs_w hq633 (by omega)), (by first | exact hq634 | exact rgs_w hq634 (by omega)), (by first | exact hq635 | exact rgs_w hq635 (by omega)), (by first | exact jns | exact rgs_w jns (by omega)), (by first | exact jnm | exact rgs_w jnm (by omega)), (by omega), (by exact jnj), (by exact stp_leaf (Or.inr (Or.inr (Or.inr (Or.inr (Or.inr ⟨⟨by omega, c489, c450, c17, c96, c341, c528, c5, c540⟩, hq589, by rw [← hq609]; omega, by rw [← hq609]; omega, by rw [← hq609]; exact hq636⟩)))))), (by exact ss_leaf (Or.inr (Or.inr (Or.inr (Or.inr (Or.inr (Or.inr ⟨⟨by omega, c489, c450, c17, c96, c341, c528, c5, c540⟩, by rw [← hq609]; omega, by rw [← hq609]; omega, by rw [← hq609]; exact hq637⟩)))))))⟩)
      · cases hv
        have h84 := hfk.get h84 (by decide)
        have h87 := hfk.get h87 (by decide)
        have h88 := hfk.get h88 (by decide)
        have h93 := hfk.get h93 (by decide)
        have h81 := hfk.get h81 (by decide)
        have h82 := hfk.get h82 (by decide)
        have h91 := hfk.get h91 (by decide)
        have h92 := hfk.get h92 (by decide)
        have h110 := hfk.get h110 (by decide)
        have h111 := hfk.get h111 (by decide)
        have ptrI_0 := trI.fr hfk ptrI_0 (by decide) (by decide) (by decide) (by decide) (by decide) (by decide) (by decide) (by decide) (by decide) (by decide) (by decide) (by decide) (by decide) (by decide) (by decide) (by decide) (by decide) (by decide)
        have hfr := hfr.tr hfk (by decide)
        have hlen := hlk.trans hlen
        have hsl := hsk.trans hsl
        have h80 := hN80
        change ab_W _ _ _ G586 278 [some (vR 80), some (vz (tpk A_tape m_taped m_at)), none, none] [vz k2590] _
        refine ab_goto (tgt := 282) d_MO_readPart_278 (by decide) ?_
        refine ab_istore_n d_MO_readPart_282 (Nat.le_of_ble_eq_true rfl) (Nat.le_of_ble_eq_true rfl) rfl ?_
        change ab_W _ _ _ G586 283 [some (vR 80), some (vz (tpk A_tape m_taped m_at)), some (vz k2590), none] [] _
        refine ab_iload_n d_MO_readPart_283 rfl ?_
        refine zz_if_le (tgt := 295) d_MO_readPart_284 (by decide) (by omega) (fun c638 => absurd c638 (by omega)) (fun c638 => ?_)
        refine ab_aload_n d_MO_readPart_287 rfl ?_
        refine ab_iload_n d_MO_readPart_288 rfl ?_
        refine ab_callV (d' := d - 1) (as := [vz k2590]) (st := []) (r := _) (z_MO_readRepeat (o := o) (m_thrown := m_thrown) (m_taped := m_taped) (m_length := m_length) (m_out := m_out) (m_wide := m_wide) (m_gathered := m_gathered) (m_sets := m_sets) (m_ranges := m_ranges) (m_nodes := m_nodes) (m_at := m_at) (m_flags := m_flags) (m_fault := m_fault) (m_place := m_place) (m_numbered := m_numbered) (m_depth := m_depth) (m_value := m_value) (m_isNot := m_isNot) (m_least0 := le2591) (m_most0 := mo2592) (m_slot := m_slot) (m_work := m_work) (m_got := m_got) (m_rowMany := m_rowMany) (m_charAt := m_charAt) (m_charWide := m_charWide) (m_trail := m_trail) (m_isMatch := m_isMatch) (m_matchGroups := m_matchGroups) (m_allFrom := m_allFrom) (m_allBefore := m_allBefore) (m_founds := m_founds) (m_pieces := m_pieces) (m_writtenMany := m_writtenMany) (m_templateWide := m_templateWide) (m_tooMuch := m_tooMuch) (A_tape := A_tape) (LO := LO) (HI := HI) (MK := MK) (RL := RL) (RH := RH) (NS := NS) (NM := NM) (rp := rp) (ls := ls) (SV := SV) (ro := ro) (vv := vv) (a1_ := a1_) (b1_ := b1_) (c1_ := c1_) (d1_ := d1_) (e1_ := e1_) (mo9 := m9593) (t1_ := t1_) (ao1_ := ao1_) (ro1_ := ro1_) (ts1_ := ts1_) (be := k2590) (kd9 := 1) h80 h84 h87 h88 h93 h81 h82 h91 h92 h110 h111 ptrI_0 (by omega) (by omega) jtp jmk jrl jrh jns jnm (by omega) (by omega) (by omega) (by omega) (by omega) jnj (by omega) (by omega) (by omega) hq596 (by omega)) (fun oc G2 h => by rcases h with ⟨_, _, _, _, _, _, _, _, _, _, _, _, _, _, _, _, _, _, _, _, _, _, _, _, _, _, _, _, _, _, _, h, _⟩ | ⟨_, _, _, _, _, _, _, _, _, _, _, _, _, _, _, _, _, _, _, _, _, _, _, _, _, _, _, _, _, h, _⟩ <;> exact ⟨_, h⟩) (by omega) m_MO_readRepeat ml_MO_427 im_MO_readRepeat se_MO_readRepeat c_MO h80.2.2 (Nat.le_of_ble_eq_true rfl) d_MO_readPart_289 rfl ?_
        intro v G639 hq
        rcases hq with ⟨a2640, v2641, nt2642, w2643, g2644, s2645, r2646, n2647, fl2648, nu2649, d2650, le2651, mo2652, f2653, p2654, LO2655, HI2656, MK2657, RL2658, RH2659, NS2660, NM2661, fr2662, rp2663, ls2664, SV2665, FS2666, ro2667, vv2668, na2669, nl2670, hv, hfk, hlk, hsk, hN80, hN87, hN88, hN93, hN91, hN92, hN110, hN111, pNtrI_0, hq671, hq672, hq673, hq674, hq675, hq676, hq677, hq678, hq679, hq680⟩ | ⟨a2681, v2682, nt2683, w2684, g2685, s2686, r2687, n2688, fl2689, nu2690, d2691, le2692, mo2693, f2694, p2695, LO2696, HI2697, MK2698, RL2699, RH2700, NS2701, NM2702, fr2703, rp2704, ls2705, SV2706, FS2707, ro2708, vv2709, hv, hfk, hlk, hsk, hN80, hN87, hN88, hN93, hN91, hN92, hN110, hN111, pNtrI_0, hq710, hq711, hq712, hq713, hq714, hq715, hq716⟩
        · cases hv
          have h84 := hfk.get h84 (by decide)
          have h81 := hfk.get h81 (by decide)
          have h82 := hfk.get h82 (by decide)
          have ptrI_0 := pNtrI_0
          have hfr := hfr.tr hfk (by decide)
          have hlen := hlk.trans hlen
          have hsl := hsk.trans hsl
          have h80 := hN80
          have h87 := hN87
          have h88 := hN88
          have h93 := hN93
          have h91 := hN91
          have h92 := hN92
          have h110 := hN110
          have h111 := hN111
          change ab_W _ _ _ G639 292 [some (vR 80), some (vz (tpk A_tape m_taped m_at)), some (vz k2590), none] [] _
          refine ab_goto (tgt := 312) d_MO_readPart_292 (by decide) ?_
          refine ab_vret rfl d_MO_readPart_312 ?_
          rw [hQ]; exact (Or.inl ⟨_, _, _, _, _, _, _, _, _, _, _, _, _, _, _, _, _, _, _, _, _, _, fr2662, rp2663, ls2664, SV2665, FS2666, ro2667, vv2668, na2669, nl2670, rfl, hfr, hlen, hsl, h80, h87, h88, h93, h91, h92, h110, h111, ptrI_0, (by omega), (by first | exact hq672 | exact rgs_w hq672 (by omega)), (by first | exact hq673 | exact rgs_w hq673 (by omega)), (by first | exact hq674 | exact rgs_w hq674 (by omega)), (by first | exact hq675 | exact rgs_w hq675 (by omega)), (by first | exact hq676 | exact rgs_w hq676 (by omega)), (by omega), (by exact hq678), (by exact hq679), (by exact hq680)⟩)
        · cases hv
          have h84 := hfk.get h84 (by decide)
          have h81 := hfk.get h81 (by decide)
          have h82 := hfk.get h82 (by decide)
          have ptrI_0 := pNtrI_0
          have hfr := hfr.tr hfk (by decide)
          have hlen := hlk.trans hlen
          have hsl := hsk.trans hsl
          have h80 := hN80
          have h87 := hN87
          have h88 := hN88
          have h93 := hN93
          have h91 := hN91
          have h92 := hN92
          have h110 := hN110
          have h111 := hN111
          change ab_W _ _ _ G639 292 [some (vR 80), some (vz (tpk A_tape m_taped m_at)), some (vz k2590), none] [] _
          refine ab_goto (tgt := 312) d_MO_readPart_292 (by decide) ?_
          refine ab_vret rfl d_MO_readPart_312 ?_
          rw [hQ]; exact (Or.inr ⟨_, _, _, _, _, _, _, _, _, _, _, _, _, _, _, _, _, _, _, _, _, _, fr2703, rp2704, ls2705, SV2706, FS2707, ro2708, vv2709, rfl, hfr, hlen, hsl, h80, h87, h88, h93, h91, h92, h110, h111, ptrI_0, (by omega), (by first | exact hq711 | exact rgs_w hq711 (by omega)), (by first | exact hq712 | exact rgs_w hq712 (by omega)), (by first | exact hq713 | exact rgs_w hq713 (by omega)), (by first | exact hq714 | exact rgs_w hq714 (by omega)), (by first | exact hq715 | exact rgs_w hq715 (by omega)), (by exact hq716)⟩)
  · cases hv
    rw [hGe]
    change ab_W _ _ _ G 5 [some (vR 80), none, none, none] [vz (-1)] _
    exfalso; omega
