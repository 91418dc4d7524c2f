set_option maxRecDepth 100000 in
set_option maxHeartbeats 4000000 in
theorem z_MO_readPart {X : ab_X} {d : Nat} {o : Nat → Nat} {G : ab_G} {m_thrown : Int} {m_taped : Int} {m_length : Int} {m_out : Int} {m_wide : Int} {m_gathered : Int} {m_sets : Int} {m_ranges : Int} {m_nodes : Int} {m_at : Int} {m_flags : Int} {m_fault : Int} {m_place : Int} {m_numbered : Int} {m_depth : Int} {m_value : Int} {m_isNot : Int} {m_least0 : Int} {m_most0 : Int} {m_slot : Int} {m_work : Int} {m_got : Int} {m_rowMany : Int} {m_charAt : Int} {m_charWide : Int} {m_trail : Int} {m_isMatch : Int} {m_matchGroups : Int} {m_allFrom : Int} {m_allBefore : Int} {m_founds : Int} {m_pieces : Int} {m_writtenMany : Int} {m_templateWide : Int} {m_tooMuch : Int} {A_tape : Int → Int} {LO : Int → Int} {HI : Int → Int} {MK : Int → Int} {RL : Int → Int} {RH : Int → Int} {NS : Int → Int} {NM : Int → Int} {rp : Int} {ls : Int} {a1_ : Int} {b1_ : Int} {c1_ : Int} {d1_ : Int} {e1_ : Int} {t1_ : List Fr} {na : Int → Int} {nl : Int → Int} (h80 : cc o G 80 280 (ab_ob 12 (mof m_thrown m_taped m_length m_out m_wide m_gathered m_sets m_ranges m_nodes m_at m_flags m_fault m_place m_numbered m_depth m_value m_isNot m_least0 m_most0 m_slot m_work m_got m_rowMany m_charAt m_charWide m_trail m_isMatch m_matchGroups m_allFrom m_allBefore m_founds m_pieces m_writtenMany m_templateWide m_tooMuch))) (h84 : cc o G 84 284 (za 2000 A_tape)) (h87 : cc o G 87 287 (za 9000 LO)) (h88 : cc o G 88 288 (za 9000 HI)) (h93 : cc o G 93 293 (zb 1200 MK)) (h81 : cc o G 81 281 (za 13 tbA)) (h82 : cc o G 82 282 (za 66 tbT)) (h91 : cc o G 91 291 (za 24000 RL)) (h92 : cc o G 92 292 (za 24000 RH)) (h110 : cc o G 110 310 (za 120 NS)) (h111 : cc o G 111 311 (za 10 NM)) (ptrI_0 : trI o G 0 m_nodes m_sets (m_depth + 1) (-1) 0 0 ((a1_, b1_, c1_, d1_, e1_) :: t1_) rp ls 0 0 0) (n18 : ab_n0 = 18) (cta : 0 ≤ m_taped ∧ m_taped ≤ 2000) (jtp : rgs A_tape 2000 0 255) (jmk : rgs MK 1200 0 1) (jrl : rgs RL 24000 0 1114111) (jrh : rgs RH 24000 0 1114111) (jns : rgs NS 120 0 255) (jnm : rgs NM 10 0 12) (cf : m_fault = 0) (cat : 0 ≤ m_at ∧ m_at < m_taped) (cpo : 0 ≤ m_nodes ∧ m_nodes + 2 * m_depth + 0 ≤ 2 * m_at ∧ 0 ≤ m_sets ∧ m_sets + 0 ≤ m_at ∧ 0 ≤ m_ranges ∧ m_ranges + 0 ≤ 12 * m_at ∧ 0 ≤ m_depth ∧ m_depth ≤ 30 ∧ 0 ≤ m_numbered ∧ m_numbered ≤ 9 ∧ -2147483648 ≤ m_flags ∧ m_flags ≤ 2147483647 ∧ -2147483648 ≤ m_value ∧ m_value ≤ 2147483647) (cfl : 0 ≤ m_flags ∧ m_flags ≤ 15) (crp : 0 ≤ rp ∧ rp ≤ 1) (jnj : nmJ NS NM A_tape na nl m_numbered) (hd : 8 ≤ d) : ab_F X d y_MO_readPart (.code y_MO_readPart b_MO_readPart 4 none) [vR 80] G (fun oc G2 => (∃ a2 : Int, ∃ v2 : Int, ∃ nt2 : Int, ∃ w2 : Int, ∃ g2 : Int, ∃ s2 : Int, ∃ r2 : Int, ∃ n2 : Int, ∃ fl2 : Int, ∃ nu2 : Int, ∃ d2 : Int, ∃ le2 : Int, ∃ mo2 : Int, ∃ f2 : Int, ∃ p2 : Int, ∃ LO2 : Int → Int, ∃ HI2 : Int → Int, ∃ MK2 : Int → Int, ∃ RL2 : Int → Int, ∃ RH2 : Int → Int, ∃ NS2 : Int → Int, ∃ NM2 : Int → Int, ∃ fr2 : List Fr, ∃ rp2 : Int, ∃ ls2 : Int, ∃ na2 : Int → Int, ∃ nl2 : Int → Int, oc = .returned none ∧ fx o o [280, 287, 288, 293, 291, 292, 310, 311, 294, 295, 296, 297, 298, 299, 300, 301, 290, 289, 305, 306, 307, 308, 309, 302, 303, 304] G G2 ∧ G2.length = G.length ∧ ab_slots G2 = ab_slots G ∧ cc o G2 80 280 (ab_ob 12 (mof m_thrown m_taped m_length m_out w2 g2 s2 r2 n2 a2 fl2 f2 p2 nu2 d2 v2 nt2 le2 mo2 m_slot m_work m_got m_rowMany m_charAt m_charWide m_trail m_isMatch m_matchGroups m_allFrom m_allBefore m_founds m_pieces m_writtenMany m_templateWide m_tooMuch)) ∧ cc o G2 87 287 (za 9000 LO2) ∧ cc o G2 88 288 (za 9000 HI2) ∧ cc o G2 93 293 (zb 1200 MK2) ∧ cc o G2 91 291 (za 24000 RL2) ∧ cc o G2 92 292 (za 24000 RH2) ∧ cc o G2 110 310 (za 120 NS2) ∧ cc o G2 111 311 (za 10 NM2) ∧ trI o G2 0 n2 s2 (d2 + 1) (-1) 0 0 fr2 rp2 ls2 0 0 0 ∧ (f2 = 0 ∧ p2 = m_place ∧ m_at < a2 ∧ a2 ≤ m_taped ∧ 0 ≤ n2 ∧ n2 + 2 * d2 ≤ 2 * a2 ∧ 0 ≤ s2 ∧ s2 ≤ a2 ∧ 0 ≤ r2 ∧ r2 ≤ 12 * a2 ∧ 0 ≤ d2 ∧ d2 ≤ 30 ∧ 0 ≤ nu2 ∧ nu2 ≤ 9 ∧ -2147483648 ≤ fl2 ∧ fl2 ≤ 2147483647 ∧ -2147483648 ≤ v2 ∧ v2 ≤ 2147483647) ∧ (rgs MK2 1200 0 1) ∧ (rgs RL2 24000 0 1114111) ∧ (rgs RH2 24000 0 1114111) ∧ (rgs NS2 120 0 255) ∧ (rgs NM2 10 0 12) ∧ (0 ≤ rp2 ∧ rp2 ≤ 1) ∧ (nmJ NS2 NM2 A_tape na2 nl2 nu2) ∧ (stp A_tape m_taped (m_at, m_flags, m_numbered, na, nl, ((a1_, b1_, c1_, d1_, e1_) :: t1_), rp, ls) (a2, fl2, nu2, na2, nl2, fr2, rp2, ls2))) ∨ (∃ a2 : Int, ∃ v2 : Int, ∃ nt2 : Int, ∃ w2 : Int, ∃ g2 : Int, ∃ s2 : Int, ∃ r2 : Int, ∃ n2 : Int, ∃ fl2 : Int, ∃ nu2 : Int, ∃ d2 : Int, ∃ le2 : Int, ∃ mo2 : Int, ∃ f2 : Int, ∃ p2 : Int, ∃ LO2 : Int → Int, ∃ HI2 : Int → Int, ∃ MK2 : Int → Int, ∃ RL2 : Int → Int, ∃ RH2 : Int → Int, ∃ NS2 : Int → Int, ∃ NM2 : Int → Int, ∃ fr2 : List Fr, ∃ rp2 : Int, ∃ ls2 : Int, oc = .returned none ∧ fx o o [280, 287, 288, 293, 291, 292, 310, 311, 294, 295, 296, 297, 298, 299, 300, 301, 290, 289, 305, 306, 307, 308, 309, 302, 303, 304] G G2 ∧ G2.length = G.length ∧ ab_slots G2 = ab_slots G ∧ cc o G2 80 280 (ab_ob 12 (mof m_thrown m_taped m_length m_out w2 g2 s2 r2 n2 a2 fl2 f2 p2 nu2 d2 v2 nt2 le2 mo2 m_slot m_work m_got m_rowMany m_charAt m_charWide m_trail m_isMatch m_matchGroups m_allFrom m_allBefore m_founds m_pieces m_writtenMany m_templateWide m_tooMuch)) ∧ cc o G2 87 287 (za 9000 LO2) ∧ cc o G2 88 288 (za 9000 HI2) ∧ cc o G2 93 293 (zb 1200 MK2) ∧ cc o G2 91 291 (za 24000 RL2) ∧ cc o G2 92 292 (za 24000 RH2) ∧ cc o G2 110 310 (za 120 NS2) ∧ cc o G2 111 311 (za 10 NM2) ∧ trI o G2 0 n2 s2 (d2 + 1) (-1) 0 0 fr2 rp2 ls2 0 0 0 ∧ (1 ≤ f2 ∧ f2 ≤ 14 ∧ 0 ≤ a2 ∧ a2 ≤ 4000 ∧ 0 ≤ n2 ∧ n2 ≤ 4200 ∧ 0 ≤ s2 ∧ s2 ≤ 2100 ∧ 0 ≤ r2 ∧ r2 ≤ 24000 ∧ 0 ≤ d2 ∧ d2 ≤ 30 ∧ 0 ≤ nu2 ∧ nu2 ≤ 9 ∧ -2147483648 ≤ fl2 ∧ fl2 ≤ 2147483647 ∧ -2147483648 ≤ v2 ∧ v2 ≤ 2147483647) ∧ (rgs MK2 1200 0 1) ∧ (rgs RL2 24000 0 1114111) ∧ (rgs RH2 24000 0 1114111) ∧ (rgs NS2 120 0 255) ∧ (rgs NM2 10 0 12) ∧ (stF A_tape m_taped (m_at, m_flags, m_numbered, na, nl, ((a1_, b1_, c1_, d1_, e1_) :: t1_), rp, ls) f2 p2))) := by
  refine ab_F_of (by decide +kernel) (Nat.le_of_ble_eq_true rfl) ?_
  obtain ⟨Q, hQ⟩ : ∃ z : Outcome → ab_G → Prop, z = (fun oc G2 => (∃ a2 : Int, ∃ v2 : Int, ∃ nt2 : Int, ∃ w2 : Int, ∃ g2 : Int, ∃ s2 : Int, ∃ r2 : Int, ∃ n2 : Int, ∃ fl2 : Int, ∃ nu2 : Int, ∃ d2 : Int, ∃ le2 : Int, ∃ mo2 : Int, ∃ f2 : Int, ∃ p2 : Int, ∃ LO2 : Int → Int, ∃ HI2 : Int → Int, ∃ MK2 : Int → Int, ∃ RL2 : Int → Int, ∃ RH2 : Int → Int, ∃ NS2 : Int → Int, ∃ NM2 : Int → Int, ∃ fr2 : List Fr, ∃ rp2 : Int, ∃ ls2 : Int, ∃ na2 : Int → Int, ∃ nl2 : Int → Int, oc = .returned none ∧ fx o o [280, 287, 288, 293, 291, 292, 310, 311, 294, 295, 296, 297, 298, 299, 300, 301, 290, 289, 305, 306, 307, 308, 309, 302, 303, 304] G G2 ∧ G2.length = G.length ∧ ab_slots G2 = ab_slots G ∧ cc o G2 80 280 (ab_ob 12 (mof m_thrown m_taped m_length m_out w2 g2 s2 r2 n2 a2 fl2 f2 p2 nu2 d2 v2 nt2 le2 mo2 m_slot m_work m_got m_rowMany m_charAt m_charWide m_trail m_isMatch m_matchGroups m_allFrom m_allBefore m_founds m_pieces m_writtenMany m_templateWide m_tooMuch)) ∧ cc o G2 87 287 (za 9000 LO2) ∧ cc o G2 88 288 (za 9000 HI2) ∧ cc o G2 93 293 (zb 1200 MK2) ∧ cc o G2 91 291 (za 24000 RL2) ∧ cc o G2 92 292 (za 24000 RH2) ∧ cc o G2 110 310 (za 120 NS2) ∧ cc o G2 111 311 (za 10 NM2) ∧ trI o G2 0 n2 s2 (d2 + 1) (-1) 0 0 fr2 rp2 ls2 0 0 0 ∧ (f2 = 0 ∧ p2 = m_place ∧ m_at < a2 ∧ a2 ≤ m_taped ∧ 0 ≤ n2 ∧ n2 + 2 * d2 ≤ 2 * a2 ∧ 0 ≤ s2 ∧ s2 ≤ a2 ∧ 0 ≤ r2 ∧ r2 ≤ 12 * a2 ∧ 0 ≤ d2 ∧ d2 ≤ 30 ∧ 0 ≤ nu2 ∧ nu2 ≤ 9 ∧ -2147483648 ≤ fl2 ∧ fl2 ≤ 2147483647 ∧ -2147483648 ≤ v2 ∧ v2 ≤ 2147483647) ∧ (rgs MK2 1200 0 1) ∧ (rgs RL2 24000 0 1114111) ∧ (rgs RH2 24000 0 1114111) ∧ (rgs NS2 120 0 255) ∧ (rgs NM2 10 0 12) ∧ (0 ≤ rp2 ∧ rp2 ≤ 1) ∧ (nmJ NS2 NM2 A_tape na2 nl2 nu2) ∧ (stp A_tape m_taped (m_at, m_flags, m_numbered, na, nl, ((a1_, b1_, c1_, d1_, e1_) :: t1_), rp, ls) (a2, fl2, nu2, na2, nl2, fr2, rp2, ls2))) ∨ (∃ a2 : Int, ∃ v2 : Int, ∃ nt2 : Int, ∃ w2 : Int, ∃ g2 : Int, ∃ s2 : Int, ∃ r2 : Int, ∃ n2 : Int, ∃ fl2 : Int, ∃ nu2 : Int, ∃ d2 : Int, ∃ le2 : Int, ∃ mo2 : Int, ∃ f2 : Int, ∃ p2 : Int, ∃ LO2 : Int → Int, ∃ HI2 : Int → Int, ∃ MK2 : Int → Int, ∃ RL2 : Int → Int, ∃ RH2 : Int → Int, ∃ NS2 : Int → Int, ∃ NM2 : Int → Int, ∃ fr2 : List Fr, ∃ rp2 : Int, ∃ ls2 : Int, oc = .returned none ∧ fx o o [280, 287, 288, 293, 291, 292, 310, 311, 294, 295, 296, 297, 298, 299, 300, 301, 290, 289, 305, 306, 307, 308, 309, 302, 303, 304] G G2 ∧ G2.length = G.length ∧ ab_slots G2 = ab_slots G ∧ cc o G2 80 280 (ab_ob 12 (mof m_thrown m_taped m_length m_out w2 g2 s2 r2 n2 a2 fl2 f2 p2 nu2 d2 v2 nt2 le2 mo2 m_slot m_work m_got m_rowMany m_charAt m_charWide m_trail m_isMatch m_matchGroups m_allFrom m_allBefore m_founds m_pieces m_writtenMany m_templateWide m_tooMuch)) ∧ cc o G2 87 287 (za 9000 LO2) ∧ cc o G2 88 288 (za 9000 HI2) ∧ cc o G2 93 293 (zb 1200 MK2) ∧ cc o G2 91 291 (za 24000 RL2) ∧ cc o G2 92 292 (za 24000 RH2) ∧ cc o G2 110 310 (za 120 NS2) ∧ cc o G2 111 311 (za 10 NM2) ∧ trI o G2 0 n2 s2 (d2 + 1) (-1) 0 0 fr2 rp2 ls2 0 0 0 ∧ (1 ≤ f2 ∧ f2 ≤ 14 ∧ 0 ≤ a2 ∧ a2 ≤ 4000 ∧ 0 ≤ n2 ∧ n2 ≤ 4200 ∧ 0 ≤ s2 ∧ s2 ≤ 2100 ∧ 0 ≤ r2 ∧ r2 ≤ 24000 ∧ 0 ≤ d2 ∧ d2 ≤ 30 ∧ 0 ≤ nu2 ∧ nu2 ≤ 9 ∧ -2147483648 ≤ fl2 ∧ fl2 ≤ 2147483647 ∧ -2147483648 ≤ v2 ∧ v2 ≤ 2147483647) ∧ (rgs MK2 1200 0 1) ∧ (rgs RL2 24000 0 1114111) ∧ (rgs RH2 24000 0 1114111) ∧ (rgs NS2 120 0 255) ∧ (rgs NM2 10 0 12) ∧ (stF A_tape m_taped (m_at, m_flags, m_numbered, na, nl, ((a1_, b1_, c1_, d1_, e1_) :: t1_), rp, ls) f2 p2))) := ⟨_, rfl⟩
  rw [← hQ]
  change ab_W X (ab_pl y_MO_readPart b_MO_readPart 4 none) d G 0 [some (vR 80), none, none, none] [] Q
  have hfr : fx o o [280, 287, 288, 293, 291, 292, 310, 311, 294, 295, 296, 297, 298, 299, 300, 301, 290, 289, 305, 306, 307, 308, 309, 302, 303, 304] G G := fx.rf
  have hlen : G.length = G.length := rfl
  have hsl : ab_slots G = ab_slots G := rfl
  refine ab_aload_n d_MO_readPart_0 rfl ?_
  refine zz_iconst d_MO_readPart_1 ?_
  refine ab_callV (d' := d - 1) (as := [vz 0]) (st := []) (r := _) (z_MO_here (o := o) (m_thrown := m_thrown) (m_taped := m_taped) (m_length := m_length) (m_out := m_out) (m_wide := m_wide) (m_gathered := m_gathered) (m_sets := m_sets) (m_ranges := m_ranges) (m_nodes := m_nodes) (m_at := m_at) (m_flags := m_flags) (m_fault := m_fault) (m_place := m_place) (m_numbered := m_numbered) (m_depth := m_depth) (m_value := m_value) (m_isNot := m_isNot) (m_least0 := m_least0) (m_most0 := m_most0) (m_slot := m_slot) (m_work := m_work) (m_got := m_got) (m_rowMany := m_rowMany) (m_charAt := m_charAt) (m_charWide := m_charWide) (m_trail := m_trail) (m_isMatch := m_isMatch) (m_matchGroups := m_matchGroups) (m_allFrom := m_allFrom) (m_allBefore := m_allBefore) (m_founds := m_founds) (m_pieces := m_pieces) (m_writtenMany := m_writtenMany) (m_templateWide := m_templateWide) (m_tooMuch := m_tooMuch) (A_tape := A_tape) (k := 0) (qh := m_at) h80 h84 (by omega) (by omega) jtp (by omega) (by omega)) (fun oc G2 h => by rcases h with ⟨h, _⟩ | ⟨h, _⟩ <;> exact ⟨_, h⟩) (by omega) m_MO_here ml_MO_297 im_MO_here se_MO_here c_MO h80.2.2 (Nat.le_of_ble_eq_true rfl) d_MO_readPart_2 rfl ?_
  intro v G1 hq
  rcases hq with ⟨hv, hGe, hq2⟩ | ⟨hv, hGe, hq3, hq4⟩
  · cases hv
    rw [hGe]
    change ab_W _ _ _ G 5 [some (vR 80), none, none, none] [vz (tpk A_tape m_taped m_at)] _
    refine ab_istore_n d_MO_readPart_5 (Nat.le_of_ble_eq_true rfl) (Nat.le_of_ble_eq_true rfl) rfl ?_
    change ab_W _ _ _ G 6 [some (vR 80), some (vz (tpk A_tape m_taped m_at)), none, none] [] _
    refine ab_iload_n d_MO_readPart_6 rfl ?_
    by_cases c5 : (tpk A_tape m_taped m_at) = 36
    · refine zz_lookup (off := 186) (tgt := 193) d_MO_readPart_7 (by decide) (by omega) (by rw [c5]; decide) (by decide) ?_
      obtain ⟨K, O, Fi, Be, Le, Mo, Z, LZ, SM, SA, QF, QL, AF, AL, SD, OA, OF, ON, h94, h95, h96, h97, h98, h99, h100, h101, h90, h89, h105, h106, h107, h108, h109, h102, h103, h104, jk, jo, jfi, jbe, jle, jmo, jz, jlz, jsm, jsa, jqf, jql, jaf, jal, jsd, joa, jof, jon, jt, cnd, cre, crs, crz, ck5, ck6, ck7, jss⟩ := ptrI_0
      refine ab_aload_n d_MO_readPart_193 rfl ?_
      refine ab_aload_n d_MO_readPart_194 rfl ?_
      refine zz_iconst d_MO_readPart_195 ?_
      refine ab_aload_n d_MO_readPart_196 rfl ?_
      refine zz_iconst d_MO_readPart_197 ?_
      refine ab_callV (d' := d - 1) (as := [vz 2]) (st := [vz 3, vR 80, vR 80]) (r := _) (z2_MO_has (o := o) (m_thrown := m_thrown) (m_taped := m_taped) (m_length := m_length) (m_out := m_out) (m_wide := m_wide) (m_gathered := m_gathered) (m_sets := m_sets) (m_ranges := m_ranges) (m_nodes := m_nodes) (m_at := m_at) (m_flags := m_flags) (m_fault := m_fault) (m_place := m_place) (m_numbered := m_numbered) (m_depth := m_depth) (m_value := m_value) (m_isNot := m_isNot) (m_least0 := m_least0) (m_most0 := m_most0) (m_slot := m_slot) (m_work := m_work) (m_got := m_got) (m_rowMany := m_rowMany) (m_charAt := m_charAt) (m_charWide := m_charWide) (m_trail := m_trail) (m_isMatch := m_isMatch) (m_matchGroups := m_matchGroups) (m_allFrom := m_allFrom) (m_allBefore := m_allBefore) (m_founds := m_founds) (m_pieces := m_pieces) (m_writtenMany := m_writtenMany) (m_templateWide := m_templateWide) (m_tooMuch := m_tooMuch) h80 (by omega)) (fun oc G2 h => by rcases h with ⟨_, h, _⟩ <;> exact ⟨_, h⟩) (by omega) m_MO_has ml_MO_355 im_MO_has se_MO_has c_MO h80.2.2 (Nat.le_of_ble_eq_true rfl) d_MO_readPart_198 rfl ?_
      intro v G6 hq
      rcases hq with ⟨v7, hv, hGe, hq8, hq9⟩
      cases hv
      rw [hGe]
      change ab_W _ _ _ G 201 [some (vR 80), some (vz (tpk A_tape m_taped m_at)), none, none] [vz v7, vz 3, vR 80, vR 80] _
      refine zz_if_eq (tgt := 208) d_MO_readPart_201 (by decide) (by omega) (fun c10 => ?_) (fun c10 => ?_)
      · refine zz_iconst d_MO_readPart_208 ?_
        refine zz_lconst d_MO_readPart_209 ?_
        change ab_W _ _ _ G 210 [some (vR 80), some (vz (tpk A_tape m_taped m_at)), none, none] [vj 1, vz 1, vz 3, vR 80, vR 80] _
        refine ab_callV (d' := d - 1) (as := [vz 3, vz 1, vj 1]) (st := [vR 80]) (r := _) (z_MO_node (o := o) (m_thrown := m_thrown) (m_taped := m_taped) (m_length := m_length) (m_out := m_out) (m_wide := m_wide) (m_gathered := m_gathered) (m_sets := m_sets) (m_ranges := m_ranges) (m_nodes := m_nodes) (m_at := m_at) (m_flags := m_flags) (m_fault := m_fault) (m_place := m_place) (m_numbered := m_numbered) (m_depth := m_depth) (m_value := m_value) (m_isNot := m_isNot) (m_least0 := m_least0) (m_most0 := m_most0) (m_slot := m_slot) (m_work := m_work) (m_got := m_got) (m_rowMany := m_rowMany) (m_charAt := m_charAt) (m_charWide := m_charWide) (m_trail := m_trail) (m_isMatch := m_isMatch) (m_matchGroups := m_matchGroups) (m_allFrom := m_allFrom) (m_allBefore := m_allBefore) (m_founds := m_founds) (m_pieces := m_pieces) (m_writtenMany := m_writtenMany) (m_templateWide := m_templateWide) (m_tooMuch := m_tooMuch) (K := K) (O := O) (Fi := Fi) (Be := Be) (Z := Z) (k := 3) (w := 1) (zs := 1) h80 h94 h95 h96 h97 h100 (by omega) (by omega)) (fun oc G2 h => by rcases h with ⟨h, _⟩ <;> exact ⟨_, h⟩) (by omega) m_MO_node ml_MO_269 im_MO_node se_MO_node c_MO h80.2.2 (Nat.le_of_ble_eq_true rfl) d_MO_readPart_210 rfl ?_
        intro v G11 hq
        rcases hq with ⟨hv, hfk, hlk, hsk, hN80, hN94, hN95, hN96, hN97, hN100⟩
        cases hv
        have h84 := hfk.get h84 (by decide)
        have h87 := hfk.get h87 (by decide)
        have h88 := hfk.get h88 (by decide)
        have h93 := hfk.get h93 (by decide)
        have h81 := hfk.get h81 (by decide)
        have h82 := hfk.get h82 (by decide)
        have h91 := hfk.get h91 (by decide)
        have h92 := hfk.get h92 (by decide)
        have h110 := hfk.get h110 (by decide)
        have h111 := hfk.get h111 (by decide)
        have h98 := hfk.get h98 (by decide)
        have h99 := hfk.get h99 (by decide)
        have h101 := hfk.get h101 (by decide)
        have h90 := hfk.get h90 (by decide)
        have h89 := hfk.get h89 (by decide)
        have h105 := hfk.get h105 (by decide)
        have h106 := hfk.get h106 (by decide)
        have h107 := hfk.get h107 (by decide)
        have h108 := hfk.get h108 (by decide)
        have h109 := hfk.get h109 (by decide)
        have h102 := hfk.get h102 (by decide)
        have h103 := hfk.get h103 (by decide)
        have h104 := hfk.get h104 (by decide)
        have hfr := hfr.tr hfk (by decide)
        have hlen := hlk.trans hlen
        have hsl := hsk.trans hsl
        have h80 := hN80
        have h94 := hN94
        have h95 := hN95
        have h96 := hN96
        have h97 := hN97
        have h100 := hN100
        change ab_W _ _ _ G11 213 [some (vR 80), some (vz (tpk A_tape m_taped m_at)), none, none] [vz m_nodes, vR 80] _
        have ptrI_0 : trI o G11 0 (m_nodes + 1) m_sets (m_depth + 1) m_nodes 0 6 ((a1_, b1_, c1_, d1_, e1_) :: t1_) rp ls 1 0 0 := ⟨(zu K m_nodes 3), (zu O m_nodes 1), (zu Fi m_nodes (-1)), (zu Be m_nodes (-1)), Le, Mo, (zu Z m_nodes 1), LZ, SM, SA, QF, QL, AF, AL, SD, OA, OF, ON, h94, h95, h96, h97, h98, h99, h100, h101, h90, h89, h105, h106, h107, h108, h109, h102, h103, h104, (rgs_zu jk (by omega)), (rgs_zu jo (by omega)), (rgs_zu jfi (by omega)), (rgs_zu jbe (by omega)), jle, jmo, (rgs_zu jz (by omega)), jlz, jsm, jsa, jqf, jql, jaf, jal, jsd, joa, jof, jon, (rtj_leaf jt (by omega) (Or.inr (Or.inr (Or.inr ⟨rfl, rfl, by omega, by omega⟩)))), (by omega), (fun h => absurd h (by decide)), (fun h => absurd h (by decide)), (fun h => absurd h (by decide)), (fun h => absurd h (by decide)), (fun _ => by rw [zu_self]; decide), (fun h => absurd h (by decide)), jss⟩
        refine zz_iconst d_MO_readPart_213 ?_
        refine ab_callV (d' := d - 1) (as := [vz m_nodes, vz 1]) (st := []) (r := _) (z1_MO_part (o := o) (m_thrown := m_thrown) (m_taped := m_taped) (m_length := m_length) (m_out := m_out) (m_wide := m_wide) (m_gathered := m_gathered) (m_sets := m_sets) (m_ranges := m_ranges) (m_nodes := (m_nodes + 1)) (m_at := m_at) (m_flags := m_flags) (m_fault := m_fault) (m_place := m_place) (m_numbered := m_numbered) (m_depth := m_depth) (m_value := m_value) (m_isNot := m_isNot) (m_least0 := m_least0) (m_most0 := m_most0) (m_slot := m_slot) (m_work := m_work) (m_got := m_got) (m_rowMany := m_rowMany) (m_charAt := m_charAt) (m_charWide := m_charWide) (m_trail := m_trail) (m_isMatch := m_isMatch) (m_matchGroups := m_matchGroups) (m_allFrom := m_allFrom) (m_allBefore := m_allBefore) (m_founds := m_founds) (m_pieces := m_pieces) (m_writtenMany := m_writtenMany) (m_templateWide := m_templateWide) (m_tooMuch := m_tooMuch) (x := m_nodes) (dh := 0) (rp := rp) (ls := ls) (dz := 1) (a1_ := a1_) (b1_ := b1_) (c1_ := c1_) (d1_ := d1_) (e1_ := e1_) (nu9 := 0) (fo9 := 0) (t1_ := t1_) h80 ptrI_0 (by omega) (by omega) (by omega) (by omega)) (fun oc G2 h => by rcases h with ⟨h, _⟩ <;> exact ⟨_, h⟩) (by omega) m_MO_part ml_MO_375 im_MO_part se_MO_part c_MO h80.2.2 (Nat.le_of_ble_eq_true rfl) d_MO_readPart_214 rfl ?_
        intro v G12 hq
        rcases hq with ⟨hv, hfk, hlk, hsk, pNtrI_0⟩
        cases hv
        have h80 := hfk.get h80 (by decide)
        have h84 := hfk.get h84 (by decide)
        have h87 := hfk.get h87 (by decide)
        have h88 := hfk.get h88 (by decide)
        have h93 := hfk.get h93 (by decide)
        have h81 := hfk.get h81 (by decide)
        have h82 := hfk.get h82 (by decide)
        have h91 := hfk.get h91 (by decide)
        have h92 := hfk.get h92 (by decide)
        have h110 := hfk.get h110 (by decide)
        have h111 := hfk.get h111 (by decide)
        have ptrI_0 := pNtrI_0
        have hfr := hfr.tr hfk (by decide)
        have hlen := hlk.trans hlen
        have hsl := hsk.trans hsl
        change ab_W _ _ _ G12 217 [some (vR 80), some (vz (tpk A_tape m_taped m_at)), none, none] [] _
        refine ab_aload_n d_MO_readPart_217 rfl ?_
        refine ab_dup d_MO_readPart_218 rfl ?_
        refine ab_getf (fs := mof m_thrown m_taped m_length m_out m_wide m_gathered m_sets m_ranges (m_nodes + 1) m_at m_flags m_fault m_place m_numbered m_depth m_value m_isNot m_least0 m_most0 m_slot m_work m_got m_rowMany m_charAt m_charWide m_trail m_isMatch m_matchGroups m_allFrom m_allBefore m_founds m_pieces m_writtenMany m_templateWide m_tooMuch) f_MO_279 d_MO_readPart_219 h80.2.2 rfl ?_
        refine zz_iconst d_MO_readPart_222 ?_
        refine zz_iadd d_MO_readPart_223 ?_
        refine ab_putf (fs := mof m_thrown m_taped m_length m_out m_wide m_gathered m_sets m_ranges (m_nodes + 1) m_at m_flags m_fault m_place m_numbered m_depth m_value m_isNot m_least0 m_most0 m_slot m_work m_got m_rowMany m_charAt m_charWide m_trail m_isMatch m_matchGroups m_allFrom m_allBefore m_founds m_pieces m_writtenMany m_templateWide m_tooMuch) f_MO_279 (Or.inl rfl) d_MO_readPart_224 h80.2.2 (Nat.le_of_ble_eq_true rfl) (fun _ => ⟨rfl, rfl⟩) (h80.2.1 (by decide)) ?_
        obtain ⟨G13, eG13⟩ : ∃ z : ab_G, z = List.set G12 80 (ab_ob 12 (mof m_thrown m_taped m_length m_out m_wide m_gathered m_sets m_ranges (m_nodes + 1) (m_at + 1) m_flags m_fault m_place m_numbered m_depth m_value m_isNot m_least0 m_most0 m_slot m_work m_got m_rowMany m_charAt m_charWide m_trail m_isMatch m_matchGroups m_allFrom m_allBefore m_founds m_pieces m_writtenMany m_templateWide m_tooMuch)) := ⟨_, rfl⟩
        have h84 := h84.keep h80 eG13 (by decide)
        have h87 := h87.keep h80 eG13 (by decide)
        have h88 := h88.keep h80 eG13 (by decide)
        have h93 := h93.keep h80 eG13 (by decide)
        have h81 := h81.keep h80 eG13 (by decide)
        have h82 := h82.keep h80 eG13 (by decide)
        have h91 := h91.keep h80 eG13 (by decide)
        have h92 := h92.keep h80 eG13 (by decide)
        have h110 := h110.keep h80 eG13 (by decide)
        have h111 := h111.keep h80 eG13 (by decide)
        have hst := (fx.rf (o := o) (S := [280]) (G := G12)).wr h80 eG13 (List.mem_singleton.mpr rfl)
        have ptrI_0 := trI.fr hst ptrI_0 (by decide) (by decide) (by decide) (by decide) (by decide) (by decide) (by decide) (by decide) (by decide) (by decide) (by decide) (by decide) (by decide) (by decide) (by decide) (by decide) (by decide) (by decide)
        have hlen := (z_len eG13).trans hlen
        have hsl := (z_sl h80 eG13 rfl).trans hsl
        have hfr := hfr.wr h80 eG13 (by decide)
        have h80 := h80.kept eG13
        change ab_W _ _ _ (List.set G12 80 (ab_ob 12 (mof m_thrown m_taped m_length m_out m_wide m_gathered m_sets m_ranges (m_nodes + 1) (m_at + 1) m_flags m_fault m_place m_numbered m_depth m_value m_isNot m_least0 m_most0 m_slot m_work m_got m_rowMany m_charAt m_charWide m_trail m_isMatch m_matchGroups m_allFrom m_allBefore m_founds m_pieces m_writtenMany m_templateWide m_tooMuch))) 227 [some (vR 80), some (vz (tpk A_tape m_taped m_at)), none, none] [] _
        rw [← eG13]
        refine ab_goto (tgt := 312) d_MO_readPart_227 (by decide) ?_
        refine ab_vret rfl d_MO_readPart_312 ?_
        rw [hQ]; exact (Or.inl ⟨_, _, _, _, _, _, _, _, _, _, _, _, _, _, _, _, _, _, _, _, _, _, ((a1_, b1_, c1_, d1_, (e1_ + 1)) :: t1_), 1, 1, na, nl, rfl, hfr, hlen, hsl, h80, h87, h88, h93, h91, h92, h110, h111, ptrI_0, (by omega), (by first | exact jmk | exact rgs_w jmk (by omega)), (by first | exact jrl | exact rgs_w jrl (by omega)), (by first | exact jrh | exact rgs_w jrh (by omega)), (by first | exact jns | exact rgs_w jns (by omega)), (by first | exact jnm | exact rgs_w jnm (by omega)), (by omega), (by exact jnj), (by exact stp_leaf (Or.inr (Or.inr (Or.inr (Or.inr (Or.inl ⟨by omega, by omega, rfl⟩))))))⟩)
      · replace c10 : nzq v7 0 := c10
        refine zz_iconst d_MO_readPart_204 ?_
        refine ab_goto (tgt := 209) d_MO_readPart_205 (by decide) ?_
        refine zz_lconst d_MO_readPart_209 ?_
        change ab_W _ _ _ G 210 [some (vR 80), some (vz (tpk A_tape m_taped m_at)), none, none] [vj 1, vz 5, vz 3, vR 80, vR 80] _
        refine ab_callV (d' := d - 1) (as := [vz 3, vz 5, vj 1]) (st := [vR 80]) (r := _) (z_MO_node (o := o) (m_thrown := m_thrown) (m_taped := m_taped) (m_length := m_length) (m_out := m_out) (m_wide := m_wide) (m_gathered := m_gathered) (m_sets := m_sets) (m_ranges := m_ranges) (m_nodes := m_nodes) (m_at := m_at) (m_flags := m_flags) (m_fault := m_fault) (m_place := m_place) (m_numbered := m_numbered) (m_depth := m_depth) (m_value := m_value) (m_isNot := m_isNot) (m_least0 := m_least0) (m_most0 := m_most0) (m_slot := m_slot) (m_work := m_work) (m_got := m_got) (m_rowMany := m_rowMany) (m_charAt := m_charAt) (m_charWide := m_charWide) (m_trail := m_trail) (m_isMatch := m_isMatch) (m_matchGroups := m_matchGroups) (m_allFrom := m_allFrom) (m_allBefore := m_allBefore) (m_founds := m_founds) (m_pieces := m_pieces) (m_writtenMany := m_writtenMany) (m_templateWide := m_templateWide) (m_tooMuch := m_tooMuch) (K := K) (O := O) (Fi := Fi) (Be := Be) (Z := Z) (k := 3) (w := 5) (zs := 1) h80 h94 h95 h96 h97 h100 (by omega) (by omega)) (fun oc G2 h => by rcases h with ⟨h, _⟩ <;> exact ⟨_, h⟩) (by omega) m_MO_node ml_MO_269 im_MO_node se_MO_node c_MO h80.2.2 (Nat.le_of_ble_eq_true rfl) d_MO_readPart_210 rfl ?_
        intro v G14 hq
        rcases hq with ⟨hv, hfk, hlk, hsk, hN80, hN94, hN95, hN96, hN97, hN100⟩
        cases hv
        have h84 := hfk.get h84 (by decide)
        have h87 := hfk.get h87 (by decide)
        have h88 := hfk.get h88 (by decide)
        have h93 := hfk.get h93 (by decide)
        have h81 := hfk.get h81 (by decide)
        have h82 := hfk.get h82 (by decide)
        have h91 := hfk.get h91 (by decide)
        have h92 := hfk.get h92 (by decide)
        have h110 := hfk.get h110 (by decide)
        have h111 := hfk.get h111 (by decide)
        have h98 := hfk.get h98 (by decide)
        have h99 := hfk.get h99 (by decide)
        have h101 := hfk.get h101 (by decide)
        have h90 := hfk.get h90 (by decide)
        have h89 := hfk.get h89 (by decide)
        have h105 := hfk.get h105 (by decide)
        have h106 := hfk.get h106 (by decide)
        have h107 := hfk.get h107 (by decide)
        have h108 := hfk.get h108 (by decide)
        have h109 := hfk.get h109 (by decide)
        have h102 := hfk.get h102 (by decide)
        have h103 := hfk.get h103 (by decide)
        have h104 := hfk.get h104 (by decide)
        have hfr := hfr.tr hfk (by decide)
        have hlen := hlk.trans hlen
        have hsl := hsk.trans hsl
        have h80 := hN80
        have h94 := hN94
        have h95 := hN95
        have h96 := hN96
        have h97 := hN97
        have h100 := hN100
        change ab_W _ _ _ G14 213 [some (vR 80), some (vz (tpk A_tape m_taped m_at)), none, none] [vz m_nodes, vR 80] _
        have ptrI_0 : trI o G14 0 (m_nodes + 1) m_sets (m_depth + 1) m_nodes 0 6 ((a1_, b1_, c1_, d1_, e1_) :: t1_) rp ls 1 0 0 := ⟨(zu K m_nodes 3), (zu O m_nodes 5), (zu Fi m_nodes (-1)), (zu Be m_nodes (-1)), Le, Mo, (zu Z m_nodes 1), LZ, SM, SA, QF, QL, AF, AL, SD, OA, OF, ON, h94, h95, h96, h97, h98, h99, h100, h101, h90, h89, h105, h106, h107, h108, h109, h102, h103, h104, (rgs_zu jk (by omega)), (rgs_zu jo (by omega)), (rgs_zu jfi (by omega)), (rgs_zu jbe (by omega)), jle, jmo, (rgs_zu jz (by omega)), jlz, jsm, jsa, jqf, jql, jaf, jal, jsd, joa, jof, jon, (rtj_leaf jt (by omega) (Or.inr (Or.inr (Or.inr ⟨rfl, rfl, by omega, by omega⟩)))), (by omega), (fun h => absurd h (by decide)), (fun h => absurd h (by decide)), (fun h => absurd h (by decide)), (fun h => absurd h (by decide)), (fun _ => by rw [zu_self]; decide), (fun h => absurd h (by decide)), jss⟩
        refine zz_iconst d_MO_readPart_213 ?_
        refine ab_callV (d' := d - 1) (as := [vz m_nodes, vz 1]) (st := []) (r := _) (z1_MO_part (o := o) (m_thrown := m_thrown) (m_taped := m_taped) (m_length := m_length) (m_out := m_out) (m_wide := m_wide) (m_gathered := m_gathered) (m_sets := m_sets) (m_ranges := m_ranges) (m_nodes := (m_nodes + 1)) (m_at := m_at) (m_flags := m_flags) (m_fault := m_fault) (m_place := m_place) (m_numbered := m_numbered) (m_depth := m_depth) (m_value := m_value) (m_isNot := m_isNot) (m_least0 := m_least0) (m_most0 := m_most0) (m_slot := m_slot) (m_work := m_work) (m_got := m_got) (m_rowMany := m_rowMany) (m_charAt := m_charAt) (m_charWide := m_charWide) (m_trail := m_trail) (m_isMatch := m_isMatch) (m_matchGroups := m_matchGroups) (m_allFrom := m_allFrom) (m_allBefore := m_allBefore) (m_founds := m_founds) (m_pieces := m_pieces) (m_writtenMany := m_writtenMany) (m_templateWide := m_templateWide) (m_tooMuch := m_tooMuch) (x := m_nodes) (dh := 0) (rp := rp) (ls := ls) (dz := 1) (a1_ := a1_) (b1_ := b1_) (c1_ := c1_) (d1_ := d1_) (e1_ := e1_) (nu9 := 0) (fo9 := 0) (t1_ := t1_) h80 ptrI_0 (by omega) (by omega) (by omega) (by omega)) (fun oc G2 h => by rcases h with ⟨h, _⟩ <;> exact ⟨_, h⟩) (by omega) m_MO_part ml_MO_375 im_MO_part se_MO_part c_MO h80.2.2 (Nat.le_of_ble_eq_true rfl) d_MO_readPart_214 rfl ?_
        intro v G15 hq
        rcases hq with ⟨hv, hfk, hlk, hsk, pNtrI_0⟩
        cases hv
        have h80 := hfk.get h80 (by decide)
        have h84 := hfk.get h84 (by decide)
        have h87 := hfk.get h87 (by decide)
        have h88 := hfk.get h88 (by decide)
        have h93 := hfk.get h93 (by decide)
        have h81 := hfk.get h81 (by decide)
        have h82 := hfk.get h82 (by decide)
        have h91 := hfk.get h91 (by decide)
        have h92 := hfk.get h92 (by decide)
        have h110 := hfk.get h110 (by decide)
        have h111 := hfk.get h111 (by decide)
        have ptrI_0 := pNtrI_0
        have hfr := hfr.tr hfk (by decide)
        have hlen := hlk.trans hlen
        have hsl := hsk.trans hsl
        change ab_W _ _ _ G15 217 [some (vR 80), some (vz (tpk A_tape m_taped m_at)), none, none] [] _
        refine ab_aload_n d_MO_readPart_217 rfl ?_
        refine ab_dup d_MO_readPart_218 rfl ?_
        refine ab_getf (fs := mof m_thrown m_taped m_length m_out m_wide m_gathered m_sets m_ranges (m_nodes + 1) m_at m_flags m_fault m_place m_numbered m_depth m_value m_isNot m_least0 m_most0 m_slot m_work m_got m_rowMany m_charAt m_charWide m_trail m_isMatch m_matchGroups m_allFrom m_allBefore m_founds m_pieces m_writtenMany m_templateWide m_tooMuch) f_MO_279 d_MO_readPart_219 h80.2.2 rfl ?_
        refine zz_iconst d_MO_readPart_222 ?_
        refine zz_iadd d_MO_readPart_223 ?_
        refine ab_putf (fs := mof m_thrown m_taped m_length m_out m_wide m_gathered m_sets m_ranges (m_nodes + 1) m_at m_flags m_fault m_place m_numbered m_depth m_value m_isNot m_least0 m_most0 m_slot m_work m_got m_rowMany m_charAt m_charWide m_trail m_isMatch m_matchGroups m_allFrom m_allBefore m_founds m_pieces m_writtenMany m_templateWide m_tooMuch) f_MO_279 (Or.inl rfl) d_MO_readPart_224 h80.2.2 (Nat.le_of_ble_eq_true rfl) (fun _ => ⟨rfl, rfl⟩) (h80.2.1 (by decide)) ?_
        obtain ⟨G16, eG16⟩ : ∃ z : ab_G, z = List.set G15 80 (ab_ob 12 (mof m_thrown m_taped m_length m_out m_wide m_gathered m_sets m_ranges (m_nodes + 1) (m_at + 1) m_flags m_fault m_place m_numbered m_depth m_value m_isNot m_least0 m_most0 m_slot m_work m_got m_rowMany m_charAt m_charWide m_trail m_isMatch m_matchGroups m_allFrom m_allBefore m_founds m_pieces m_writtenMany m_templateWide m_tooMuch)) := ⟨_, rfl⟩
        have h84 := h84.keep h80 eG16 (by decide)
        have h87 := h87.keep h80 eG16 (by decide)
        have h88 := h88.keep h80 eG16 (by decide)
        have h93 := h93.keep h80 eG16 (by decide)
        have h81 := h81.keep h80 eG16 (by decide)
        have h82 := h82.keep h80 eG16 (by decide)
        have h91 := h91.keep h80 eG16 (by decide)
        have h92 := h92.keep h80 eG16 (by decide)
        have h110 := h110.keep h80 eG16 (by decide)
        have h111 := h111.keep h80 eG16 (by decide)
        have hst := (fx.rf (o := o) (S := [280]) (G := G15)).wr h80 eG16 (List.mem_singleton.mpr rfl)
        have ptrI_0 := trI.fr hst ptrI_0 (by decide) (by decide) (by decide) (by decide) (by decide) (by decide) (by decide) (by decide) (by decide) (by decide) (by decide) (by decide) (by decide) (by decide) (by decide) (by decide) (by decide) (by decide)
        have hlen := (z_len eG16).trans hlen
        have hsl := (z_sl h80 eG16 rfl).trans hsl
        have hfr := hfr.wr h80 eG16 (by decide)
        have h80 := h80.kept eG16
        change ab_W _ _ _ (List.set G15 80 (ab_ob 12 (mof m_thrown m_taped m_length m_out m_wide m_gathered m_sets m_ranges (m_nodes + 1) (m_at + 1) m_flags m_fault m_place m_numbered m_depth m_value m_isNot m_least0 m_most0 m_slot m_work m_got m_rowMany m_charAt m_charWide m_trail m_isMatch m_matchGroups m_allFrom m_allBefore m_founds m_pieces m_writtenMany m_templateWide m_tooMuch))) 227 [some (vR 80), some (vz (tpk A_tape m_taped m_at)), none, none] [] _
        rw [← eG16]
        refine ab_goto (tgt := 312) d_MO_readPart_227 (by decide) ?_
        refine ab_vret rfl d_MO_readPart_312 ?_
        rw [hQ]; exact (Or.inl ⟨_, _, _, _, _, _, _, _, _, _, _, _, _, _, _, _, _, _, _, _, _, _, ((a1_, b1_, c1_, d1_, (e1_ + 1)) :: t1_), 1, 1, na, nl, rfl, hfr, hlen, hsl, h80, h87, h88, h93, h91, h92, h110, h111, ptrI_0, (by omega), (by first | exact jmk | exact rgs_w jmk (by omega)), (by first | exact jrl | exact rgs_w jrl (by omega)), (by first | exact jrh | exact rgs_w jrh (by omega)), (by first | exact jns | exact rgs_w jns (by omega)), (by first | exact jnm | exact rgs_w jnm (by omega)), (by omega), (by exact jnj), (by exact stp_leaf (Or.inr (Or.inr (Or.inr (Or.inr (Or.inl ⟨by omega, by omega, rfl⟩))))))⟩)
    replace c5 : nzq (tpk A_tape m_taped m_at) 36 := c5
    by_cases c17 : (tpk A_tape m_taped m_at) = 40
    · refine zz_lookup (off := 118) (tgt := 125) d_MO_readPart_7 (by decide) (by omega) (by rw [c17]; decide) (by decide) ?_
      refine ab_aload_n d_MO_readPart_125 rfl ?_
      refine ab_callV (d' := d - 1) (as := []) (st := []) (r := _) (z_MO_readGroup (o := o) (m_thrown := m_thrown) (m_taped := m_taped) (m_length := m_length) (m_out := m_out) (m_wide := m_wide) (m_gathered := m_gathered) (m_sets := m_sets) (m_ranges := m_ranges) (m_nodes := m_nodes) (m_at := m_at) (m_flags := m_flags) (m_fault := m_fault) (m_place := m_place) (m_numbered := m_numbered) (m_depth := m_depth) (m_value := m_value) (m_isNot := m_isNot) (m_least0 := m_least0) (m_most0 := m_most0) (m_slot := m_slot) (m_work := m_work) (m_got := m_got) (m_rowMany := m_rowMany) (m_charAt := m_charAt) (m_charWide := m_charWide) (m_trail := m_trail) (m_isMatch := m_isMatch) (m_matchGroups := m_matchGroups) (m_allFrom := m_allFrom) (m_allBefore := m_allBefore) (m_founds := m_founds) (m_pieces := m_pieces) (m_writtenMany := m_writtenMany) (m_templateWide := m_templateWide) (m_tooMuch := m_tooMuch) (A_tape := A_tape) (LO := LO) (HI := HI) (MK := MK) (RL := RL) (RH := RH) (NS := NS) (NM := NM) (rp := rp) (ls := ls) (a1_ := a1_) (b1_ := b1_) (c1_ := c1_) (d1_ := d1_) (e1_ := e1_) (t1_ := t1_) h80 h84 h87 h88 h93 h81 h82 h91 h92 h110 h111 ptrI_0 (by omega) (by omega) jtp jmk jrl jrh jns jnm (by omega) (by omega) (by omega) (by omega) (by omega) jnj (by omega) (by omega)) (fun oc G2 h => by rcases h with ⟨_, _, _, _, _, _, _, _, _, _, _, _, _, _, _, _, _, _, _, _, _, _, _, _, _, _, _, h, _⟩ | ⟨_, _, _, _, _, _, _, _, _, _, _, _, _, _, _, _, _, _, _, _, _, _, _, _, _, h, _⟩ <;> exact ⟨_, h⟩) (by omega) m_MO_readGroup ml_MO_421 im_MO_readGroup se_MO_readGroup c_MO h80.2.2 (Nat.le_of_ble_eq_true rfl) d_MO_readPart_126 rfl ?_
      intro v G18 hq
      rcases hq with ⟨a219, v220, nt221, w222, g223, s224, r225, n226, fl227, nu228, d229, le230, mo231, f232, p233, LO234, HI235, MK236, RL237, RH238, NS239, NM240, fr241, rp242, ls243, na244, nl245, hv, hfk, hlk, hsk, hN80, hN87, hN88, hN93, hN91, hN92, hN110, hN111, pNtrI_0, hq46, hq47, hq48, hq49, hq50, hq51, hq52, hq53, hq54⟩ | ⟨a255, v256, nt257, w258, g259, s260, r261, n262, fl263, nu264, d265, le266, mo267, f268, p269, LO270, HI271, MK272, RL273, RH274, NS275, NM276, fr277, rp278, ls279, hv, hfk, hlk, hsk, hN80, hN87, hN88, hN93, hN91, hN92, hN110, hN111, pNtrI_0, hq80, hq81, hq82, hq83, hq84, hq85, hq86⟩
      · cases hv
        have h84 := hfk.get h84 (by decide)
        have h81 := hfk.get h81 (by decide)
        have h82 := hfk.get h82 (by decide)
        have ptrI_0 := pNtrI_0
        have hfr := hfr.tr hfk (by decide)
        have hlen := hlk.trans hlen
        have hsl := hsk.trans hsl
        have h80 := hN80
        have h87 := hN87
        have h88 := hN88
        have h93 := hN93
        have h91 := hN91
        have h92 := hN92
        have h110 := hN110
        have h111 := hN111
        change ab_W _ _ _ G18 129 [some (vR 80), some (vz (tpk A_tape m_taped m_at)), none, none] [] _
        refine ab_goto (tgt := 312) d_MO_readPart_129 (by decide) ?_
        refine ab_vret rfl d_MO_readPart_312 ?_
        rw [hQ]; exact (Or.inl ⟨_, _, _, _, _, _, _, _, _, _, _, _, _, _, _, _, _, _, _, _, _, _, fr241, rp242, ls243, na244, nl245, rfl, hfr, hlen, hsl, h80, h87, h88, h93, h91, h92, h110, h111, ptrI_0, (by omega), (by first | exact hq47 | exact rgs_w hq47 (by omega)), (by first | exact hq48 | exact rgs_w hq48 (by omega)), (by first | exact hq49 | exact rgs_w hq49 (by omega)), (by first | exact hq50 | exact rgs_w hq50 (by omega)), (by first | exact hq51 | exact rgs_w hq51 (by omega)), (by omega), (by exact hq53), (by exact hq54)⟩)
      · cases hv
        have h84 := hfk.get h84 (by decide)
        have h81 := hfk.get h81 (by decide)
        have h82 := hfk.get h82 (by decide)
        have ptrI_0 := pNtrI_0
        have hfr := hfr.tr hfk (by decide)
        have hlen := hlk.trans hlen
        have hsl := hsk.trans hsl
        have h80 := hN80
        have h87 := hN87
        have h88 := hN88
        have h93 := hN93
        have h91 := hN91
        have h92 := hN92
        have h110 := hN110
        have h111 := hN111
        change ab_W _ _ _ G18 129 [some (vR 80), some (vz (tpk A_tape m_taped m_at)), none, none] [] _
        refine ab_goto (tgt := 312) d_MO_readPart_129 (by decide) ?_
        refine ab_vret rfl d_MO_readPart_312 ?_
        rw [hQ]; exact (Or.inr ⟨_, _, _, _, _, _, _, _, _, _, _, _, _, _, _, _, _, _, _, _, _, _, fr277, rp278, ls279, rfl, hfr, hlen, hsl, h80, h87, h88, h93, h91, h92, h110, h111, ptrI_0, (by omega), (by first | exact hq81 | exact rgs_w hq81 (by omega)), (by first | exact hq82 | exact rgs_w hq82 (by omega)), (by first | exact hq83 | exact rgs_w hq83 (by omega)), (by first | exact hq84 | exact rgs_w hq84 (by omega)), (by first | exact hq85 | exact rgs_w hq85 (by omega)), (by exact hq86)⟩)
    replace c17 : nzq (tpk A_tape m_taped m_at) 40 := c17
    by_cases c87 : (tpk A_tape m_taped m_at) = 41
    · refine zz_lookup (off := 125) (tgt := 132) d_MO_readPart_7 (by decide) (by omega) (by rw [c87]; decide) (by decide) ?_
      refine ab_aload_n d_MO_readPart_132 rfl ?_
      refine ab_callV (d' := d - 1) (as := []) (st := []) (r := _) (z_MO_closeGroup (o := o) (m_thrown := m_thrown) (m_taped := m_taped) (m_length := m_length) (m_out := m_out) (m_wide := m_wide) (m_gathered := m_gathered) (m_sets := m_sets) (m_ranges := m_ranges) (m_nodes := m_nodes) (m_at := m_at) (m_flags := m_flags) (m_fault := m_fault) (m_place := m_place) (m_numbered := m_numbered) (m_depth := m_depth) (m_value := m_value) (m_isNot := m_isNot) (m_least0 := m_least0) (m_most0 := m_most0) (m_slot := m_slot) (m_work := m_work) (m_got := m_got) (m_rowMany := m_rowMany) (m_charAt := m_charAt) (m_charWide := m_charWide) (m_trail := m_trail) (m_isMatch := m_isMatch) (m_matchGroups := m_matchGroups) (m_allFrom := m_allFrom) (m_allBefore := m_allBefore) (m_founds := m_founds) (m_pieces := m_pieces) (m_writtenMany := m_writtenMany) (m_templateWide := m_templateWide) (m_tooMuch := m_tooMuch) (A_tape := A_tape) (LO := LO) (HI := HI) (MK := MK) (RL := RL) (RH := RH) (NS := NS) (NM := NM) (rp := rp) (ls := ls) (a1_ := a1_) (b1_ := b1_) (c1_ := c1_) (d1_ := d1_) (e1_ := e1_) (t1_ := t1_) h80 h84 h87 h88 h93 h81 h82 h91 h92 h110 h111 ptrI_0 (by omega) (by omega) jtp jmk jrl jrh jns jnm (by omega) (by omega) (by omega) (by omega) (by omega) jnj (by omega) (by omega)) (fun oc G2 h => by rcases h with ⟨_, _, _, _, _, _, _, _, _, _, _, _, _, _, _, _, _, _, _, _, _, _, _, _, _, _, _, h, _⟩ | ⟨_, _, _, _, _, _, _, _, _, _, _, _, _, _, _, _, _, _, _, _, _, _, _, _, _, h, _⟩ <;> exact ⟨_, h⟩) (by omega) m_MO_closeGroup ml_MO_424 im_MO_closeGroup se_MO_closeGroup c_MO h80.2.2 (Nat.le_of_ble_eq_true rfl) d_MO_readPart_133 rfl ?_
      intro v G88 hq
      rcases hq with ⟨a289, v290, nt291, w292, g293, s294, r295, n296, fl297, nu298, d299, le2100, mo2101, f2102, p2103, LO2104, HI2105, MK2106, RL2107, RH2108, NS2109, NM2110, fr2111, rp2112, ls2113, na2114, nl2115, hv, hfk, hlk, hsk, hN80, hN87, hN88, hN93, hN91, hN92, hN110, hN111, pNtrI_0, hq116, hq117, hq118, hq119, hq120, hq121, hq122, hq123, hq124⟩ | ⟨a2125, v2126, nt2127, w2128, g2129, s2130, r2131, n2132, fl2133, nu2134, d2135, le2136, mo2137, f2138, p2139, LO2140, HI2141, MK2142, RL2143, RH2144, NS2145, NM2146, fr2147, rp2148, ls2149, hv, hfk, hlk, hsk, hN80, hN87, hN88, hN93, hN91, hN92, hN110, hN111, pNtrI_0, hq150, hq151, hq152, hq153, hq154, hq155, hq156⟩
      · cases hv
        have h84 := hfk.get h84 (by decide)
        have h81 := hfk.get h81 (by decide)
        have h82 := hfk.get h82 (by decide)
        have ptrI_0 := pNtrI_0
        have hfr := hfr.tr hfk (by decide)
        have hlen := hlk.trans hlen
        have hsl := hsk.trans hsl
        have h80 := hN80
        have h87 := hN87
        have h88 := hN88
        have h93 := hN93
        have h91 := hN91
        have h92 := hN92
        have h110 := hN110
        have h111 := hN111
        change ab_W _ _ _ G88 136 [some (vR 80), some (vz (tpk A_tape m_taped m_at)), none, none] [] _
        refine ab_goto (tgt := 312) d_MO_readPart_136 (by decide) ?_
        refine ab_vret rfl d_MO_readPart_312 ?_
        rw [hQ]; exact (Or.inl ⟨_, _, _, _, _, _, _, _, _, _, _, _, _, _, _, _, _, _, _, _, _, _, fr2111, rp2112, ls2113, na2114, nl2115, rfl, hfr, hlen, hsl, h80, h87, h88, h93, h91, h92, h110, h111, ptrI_0, (by omega), (by first | exact hq117 | exact rgs_w hq117 (by omega)), (by first | exact hq118 | exact rgs_w hq118 (by omega)), (by first | exact hq119 | exact rgs_w hq119 (by omega)), (by first | exact hq120 | exact rgs_w hq120 (by omega)), (by first | exact hq121 | exact rgs_w hq121 (by omega)), (by omega), (by exact hq123), (by exact hq124)⟩)
      · cases hv
        have h84 := hfk.get h84 (by decide)
        have h81 := hfk.get h81 (by decide)
        have h82 := hfk.get h82 (by decide)
        have ptrI_0 := pNtrI_0
        have hfr := hfr.tr hfk (by decide)
        have hlen := hlk.trans hlen
        have hsl := hsk.trans hsl
        have h80 := hN80
        have h87 := hN87
        have h88 := hN88
        have h93 := hN93
        have h91 := hN91
        have h92 := hN92
        have h110 := hN110
        have h111 := hN111
        change ab_W _ _ _ G88 136 [some (vR 80), some (vz (tpk A_tape m_taped m_at)), none, none] [] _
        refine ab_goto (tgt := 312) d_MO_readPart_136 (by decide) ?_
        refine ab_vret rfl d_MO_readPart_312 ?_
        rw [hQ]; exact (Or.inr ⟨_, _, _, _, _, _, _, _, _, _, _, _, _, _, _, _, _, _, _, _, _, _, fr2147, rp2148, ls2149, rfl, hfr, hlen, hsl, h80, h87, h88, h93, h91, h92, h110, h111, ptrI_0, (by omega), (by first | exact hq151 | exact rgs_w hq151 (by omega)), (by first | exact hq152 | exact rgs_w hq152 (by omega)), (by first | exact hq153 | exact rgs_w hq153 (by omega)), (by first | exact hq154 | exact rgs_w hq154 (by omega)), (by first | exact hq155 | exact rgs_w hq155 (by omega)), (by exact hq156)⟩)
    replace c87 : nzq (tpk A_tape m_taped m_at) 41 := c87
    by_cases c157 : (tpk A_tape m_taped m_at) = 42
    · refine zz_lookup (off := 223) (tgt := 230) d_MO_readPart_7 (by decide) (by omega) (by rw [c157]; decide) (by decide) ?_
      refine ab_aload_n d_MO_readPart_230 rfl ?_
      refine ab_iload_n d_MO_readPart_231 rfl ?_
      refine zz_bipush d_MO_readPart_232 (by decide) ?_
      refine zz_icmp_ne (tgt := 241) d_MO_readPart_234 (by decide) (by omega) (by decide) (fun c158 => ?_) (fun c158 => absurd c158 (by omega))
      refine zz_iconst d_MO_readPart_241 ?_
      refine ab_putf (fs := mof m_thrown m_taped m_length m_out m_wide m_gathered m_sets m_ranges m_nodes m_at m_flags m_fault m_place m_numbered m_depth m_value m_isNot m_least0 m_most0 m_slot m_work m_got m_rowMany m_charAt m_charWide m_trail m_isMatch m_matchGroups m_allFrom m_allBefore m_founds m_pieces m_writtenMany m_templateWide m_tooMuch) f_MO_403 (Or.inl rfl) d_MO_readPart_242 h80.2.2 (Nat.le_of_ble_eq_true rfl) (fun _ => ⟨rfl, rfl⟩) (h80.2.1 (by decide)) ?_
      obtain ⟨G159, eG159⟩ : ∃ z : ab_G, z = List.set G 80 (ab_ob 12 (mof m_thrown m_taped m_length m_out m_wide m_gathered m_sets m_ranges m_nodes m_at m_flags m_fault m_place m_numbered m_depth m_value m_isNot 0 m_most0 m_slot m_work m_got m_rowMany m_charAt m_charWide m_trail m_isMatch m_matchGroups m_allFrom m_allBefore m_founds m_pieces m_writtenMany m_templateWide m_tooMuch)) := ⟨_, rfl⟩
      have h84 := h84.keep h80 eG159 (by decide)
      have h87 := h87.keep h80 eG159 (by decide)
      have h88 := h88.keep h80 eG159 (by decide)
      have h93 := h93.keep h80 eG159 (by decide)
      have h81 := h81.keep h80 eG159 (by decide)
      have h82 := h82.keep h80 eG159 (by decide)
      have h91 := h91.keep h80 eG159 (by decide)
      have h92 := h92.keep h80 eG159 (by decide)
      have h110 := h110.keep h80 eG159 (by decide)
      have h111 := h111.keep h80 eG159 (by decide)
      have hst := (fx.rf (o := o) (S := [280]) (G := G)).wr h80 eG159 (List.mem_singleton.mpr rfl)
      have ptrI_0 := trI.fr hst ptrI_0 (by decide) (by decide) (by decide) (by decide) (by decide) (by decide) (by decide) (by decide) (by decide) (by decide) (by decide) (by decide) (by decide) (by decide) (by decide) (by decide) (by decide) (by decide)
      have hlen := (z_len eG159).trans hlen
      have hsl := (z_sl h80 eG159 rfl).trans hsl
      have hfr := hfr.wr h80 eG159 (by decide)
      have h80 := h80.kept eG159
      change ab_W _ _ _ (List.set G 80 (ab_ob 12 (mof m_thrown m_taped m_length m_out m_wide m_gathered m_sets m_ranges m_nodes m_at m_flags m_fault m_place m_numbered m_depth m_value m_isNot 0 m_most0 m_slot m_work m_got m_rowMany m_charAt m_charWide m_trail m_isMatch m_matchGroups m_allFrom m_allBefore m_founds m_pieces m_writtenMany m_templateWide m_tooMuch))) 245 [some (vR 80), some (vz (tpk A_tape m_taped m_at)), none, none] [] _
      rw [← eG159]
      refine ab_aload_n d_MO_readPart_245 rfl ?_
      refine ab_iload_n d_MO_readPart_246 rfl ?_
      refine zz_bipush d_MO_readPart_247 (by decide) ?_
      refine zz_icmp_ne (tgt := 256) d_MO_readPart_249 (by decide) (by omega) (by decide) (fun c160 => ?_) (fun c160 => absurd c160 (by omega))
      refine zz_iconst d_MO_readPart_256 ?_
      refine ab_putf (fs := mof m_thrown m_taped m_length m_out m_wide m_gathered m_sets m_ranges m_nodes m_at m_flags m_fault m_place m_numbered m_depth m_value m_isNot 0 m_most0 m_slot m_work m_got m_rowMany m_charAt m_charWide m_trail m_isMatch m_matchGroups m_allFrom m_allBefore m_founds m_pieces m_writtenMany m_templateWide m_tooMuch) f_MO_406 (Or.inl rfl) d_MO_readPart_257 h80.2.2 (Nat.le_of_ble_eq_true rfl) (fun _ => ⟨rfl, rfl⟩) (h80.2.1 (by decide)) ?_
      obtain ⟨G161, eG161⟩ : ∃ z : ab_G, z = List.set G159 80 (ab_ob 12 (mof m_thrown m_taped m_length m_out m_wide m_gathered m_sets m_ranges m_nodes m_at m_flags m_fault m_place m_numbered m_depth m_value m_isNot 0 (-1) m_slot m_work m_got m_rowMany m_charAt m_charWide m_trail m_isMatch m_matchGroups m_allFrom m_allBefore m_founds m_pieces m_writtenMany m_templateWide m_tooMuch)) := ⟨_, rfl⟩
      have h84 := h84.keep h80 eG161 (by decide)
      have h87 := h87.keep h80 eG161 (by decide)
      have h88 := h88.keep h80 eG161 (by decide)
      have h93 := h93.keep h80 eG161 (by decide)
      have h81 := h81.keep h80 eG161 (by decide)
      have h82 := h82.keep h80 eG161 (by decide)
      have h91 := h91.keep h80 eG161 (by decide)
      have h92 := h92.keep h80 eG161 (by decide)
      have h110 := h110.keep h80 eG161 (by decide)
      have h111 := h111.keep h80 eG161 (by decide)
      have hst := (fx.rf (o := o) (S := [280]) (G := G159)).wr h80 eG161 (List.mem_singleton.mpr rfl)
      have ptrI_0 := trI.fr hst ptrI_0 (by decide) (by decide) (by decide) (by decide) (by decide) (by decide) (by decide) (by decide) (by decide) (by decide) (by decide) (by decide) (by decide) (by decide) (by decide) (by decide) (by decide) (by decide)
      have hlen := (z_len eG161).trans hlen
      have hsl := (z_sl h80 eG161 rfl).trans hsl
      have hfr := hfr.wr h80 eG161 (by decide)
      have h80 := h80.kept eG161
      change ab_W _ _ _ (List.set G159 80 (ab_ob 12 (mof m_thrown m_taped m_length m_out m_wide m_gathered m_sets m_ranges m_nodes m_at m_flags m_fault m_place m_numbered m_depth m_value m_isNot 0 (-1) m_slot m_work m_got m_rowMany m_charAt m_charWide m_trail m_isMatch m_matchGroups m_allFrom m_allBefore m_founds m_pieces m_writtenMany m_templateWide m_tooMuch))) 260 [some (vR 80), some (vz (tpk A_tape m_taped m_at)), none, none] [] _
      rw [← eG161]
      refine ab_aload_n d_MO_readPart_260 rfl ?_
      refine zz_iconst d_MO_readPart_261 ?_
      refine ab_callV (d' := d - 1) (as := [vz 1]) (st := []) (r := _) (z_MO_readRepeat (o := o) (m_thrown := m_thrown) (m_taped := m_taped) (m_length := m_length) (m_out := m_out) (m_wide := m_wide) (m_gathered := m_gathered) (m_sets := m_sets) (m_ranges := m_ranges) (m_nodes := m_nodes) (m_at := m_at) (m_flags := m_flags) (m_fault := m_fault) (m_place := m_place) (m_numbered := m_numbered) (m_depth := m_depth) (m_value := m_value) (m_isNot := m_isNot) (m_least0 := 0) (m_most0 := (-1)) (m_slot := m_slot) (m_work := m_work) (m_got := m_got) (m_rowMany := m_rowMany) (m_charAt := m_charAt) (m_charWide := m_charWide) (m_trail := m_trail) (m_isMatch := m_isMatch) (m_matchGroups := m_matchGroups) (m_allFrom := m_allFrom) (m_allBefore := m_allBefore) (m_founds := m_founds) (m_pieces := m_pieces) (m_writtenMany := m_writtenMany) (m_templateWide := m_templateWide) (m_tooMuch := m_tooMuch) (A_tape := A_tape) (LO := LO) (HI := HI) (MK := MK) (RL := RL) (RH := RH) (NS := NS) (NM := NM) (rp := rp) (ls := ls) (a1_ := a1_) (b1_ := b1_) (c1_ := c1_) (d1_ := d1_) (e1_ := e1_) (mo9 := 1000) (t1_ := t1_) (be := 1) (kd9 := 0) h80 h84 h87 h88 h93 h81 h82 h91 h92 h110 h111 ptrI_0 (by omega) (by omega) jtp jmk jrl jrh jns jnm (by omega) (by omega) (by omega) (by omega) (by omega) jnj (by omega) (by omega) (by omega) (by unfold repR; first | (left; omega) | (right; left; omega) | (right; right; left; omega)) (by omega)) (fun oc G2 h => by rcases h with ⟨_, _, _, _, _, _, _, _, _, _, _, _, _, _, _, _, _, _, _, _, _, _, _, _, _, _, _, h, _⟩ | ⟨_, _, _, _, _, _, _, _, _, _, _, _, _, _, _, _, _, _, _, _, _, _, _, _, _, h, _⟩ <;> exact ⟨_, h⟩) (by omega) m_MO_readRepeat ml_MO_427 im_MO_readRepeat se_MO_readRepeat c_MO h80.2.2 (Nat.le_of_ble_eq_true rfl) d_MO_readPart_262 rfl ?_
      intro v G162 hq
      rcases hq with ⟨a2163, v2164, nt2165, w2166, g2167, s2168, r2169, n2170, fl2171, nu2172, d2173, le2174, mo2175, f2176, p2177, LO2178, HI2179, MK2180, RL2181, RH2182, NS2183, NM2184, fr2185, rp2186, ls2187, na2188, nl2189, hv, hfk, hlk, hsk, hN80, hN87, hN88, hN93, hN91, hN92, hN110, hN111, pNtrI_0, hq190, hq191, hq192, hq193, hq194, hq195, hq196, hq197, hq198⟩ | ⟨a2199, v2200, nt2201, w2202, g2203, s2204, r2205, n2206, fl2207, nu2208, d2209, le2210, mo2211, f2212, p2213, LO2214, HI2215, MK2216, RL2217, RH2218, NS2219, NM2220, fr2221, rp2222, ls2223, hv, hfk, hlk, hsk, hN80, hN87, hN88, hN93, hN91, hN92, hN110, hN111, pNtrI_0, hq224, hq225, hq226, hq227, hq228, hq229, hq230⟩
      · cases hv
        have h84 := hfk.get h84 (by decide)
        have h81 := hfk.get h81 (by decide)
        have h82 := hfk.get h82 (by decide)
        have ptrI_0 := pNtrI_0
        have hfr := hfr.tr hfk (by decide)
        have hlen := hlk.trans hlen
        have hsl := hsk.trans hsl
        have h80 := hN80
        have h87 := hN87
        have h88 := hN88
        have h93 := hN93
        have h91 := hN91
        have h92 := hN92
        have h110 := hN110
        have h111 := hN111
        change ab_W _ _ _ G162 265 [some (vR 80), some (vz (tpk A_tape m_taped m_at)), none, none] [] _
        refine ab_goto (tgt := 312) d_MO_readPart_265 (by decide) ?_
        refine ab_vret rfl d_MO_readPart_312 ?_
        rw [hQ]; exact (Or.inl ⟨_, _, _, _, _, _, _, _, _, _, _, _, _, _, _, _, _, _, _, _, _, _, fr2185, rp2186, ls2187, na2188, nl2189, rfl, hfr, hlen, hsl, h80, h87, h88, h93, h91, h92, h110, h111, ptrI_0, (by omega), (by first | exact hq191 | exact rgs_w hq191 (by omega)), (by first | exact hq192 | exact rgs_w hq192 (by omega)), (by first | exact hq193 | exact rgs_w hq193 (by omega)), (by first | exact hq194 | exact rgs_w hq194 (by omega)), (by first | exact hq195 | exact rgs_w hq195 (by omega)), (by omega), (by exact hq197), (by exact hq198)⟩)
      · cases hv
        have h84 := hfk.get h84 (by decide)
        have h81 := hfk.get h81 (by decide)
        have h82 := hfk.get h82 (by decide)
        have ptrI_0 := pNtrI_0
        have hfr := hfr.tr hfk (by decide)
        have hlen := hlk.trans hlen
        have hsl := hsk.trans hsl
        have h80 := hN80
        have h87 := hN87
        have h88 := hN88
        have h93 := hN93
        have h91 := hN91
        have h92 := hN92
        have h110 := hN110
        have h111 := hN111
        change ab_W _ _ _ G162 265 [some (vR 80), some (vz (tpk A_tape m_taped m_at)), none, none] [] _
        refine ab_goto (tgt := 312) d_MO_readPart_265 (by decide) ?_
        refine ab_vret rfl d_MO_readPart_312 ?_
        rw [hQ]; exact (Or.inr ⟨_, _, _, _, _, _, _, _, _, _, _, _, _, _, _, _, _, _, _, _, _, _, fr2221, rp2222, ls2223, rfl, hfr, hlen, hsl, h80, h87, h88, h93, h91, h92, h110, h111, ptrI_0, (by omega), (by first | exact hq225 | exact rgs_w hq225 (by omega)), (by first | exact hq226 | exact rgs_w hq226 (by omega)), (by first | exact hq227 | exact rgs_w hq227 (by omega)), (by first | exact hq228 | exact rgs_w hq228 (by omega)), (by first | exact hq229 | exact rgs_w hq229 (by omega)), (by exact hq230)⟩)
    replace c157 : nzq (tpk A_tape m_taped m_at) 42 := c157
    by_cases c231 : (tpk A_tape m_taped m_at) = 43
    · refine zz_lookup (off := 223) (tgt := 230) d_MO_readPart_7 (by decide) (by omega) (by rw [c231]; decide) (by decide) ?_
      refine ab_aload_n d_MO_readPart_230 rfl ?_
      refine ab_iload_n d_MO_readPart_231 rfl ?_
      refine zz_bipush d_MO_readPart_232 (by decide) ?_
      refine zz_icmp_ne (tgt := 241) d_MO_readPart_234 (by decide) (by omega) (by decide) (fun c232 => absurd c232 (by omega)) (fun c232 => ?_)
      refine zz_iconst d_MO_readPart_237 ?_
      refine ab_goto (tgt := 242) d_MO_readPart_238 (by decide) ?_
      refine ab_putf (fs := mof m_thrown m_taped m_length m_out m_wide m_gathered m_sets m_ranges m_nodes m_at m_flags m_fault m_place m_numbered m_depth m_value m_isNot m_least0 m_most0 m_slot m_work m_got m_rowMany m_charAt m_charWide m_trail m_isMatch m_matchGroups m_allFrom m_allBefore m_founds m_pieces m_writtenMany m_templateWide m_tooMuch) f_MO_403 (Or.inl rfl) d_MO_readPart_242 h80.2.2 (Nat.le_of_ble_eq_true rfl) (fun _ => ⟨rfl, rfl⟩) (h80.2.1 (by decide)) ?_
      obtain ⟨G233, eG233⟩ : ∃ z : ab_G, z = List.set G 80 (ab_ob 12 (mof m_thrown m_taped m_length m_out m_wide m_gathered m_sets m_ranges m_nodes m_at m_flags m_fault m_place m_numbered m_depth m_value m_isNot 1 m_most0 m_slot m_work m_got m_rowMany m_charAt m_charWide m_trail m_isMatch m_matchGroups m_allFrom m_allBefore m_founds m_pieces m_writtenMany m_templateWide m_tooMuch)) := ⟨_, rfl⟩
      have h84 := h84.keep h80 eG233 (by decide)
      have h87 := h87.keep h80 eG233 (by decide)
      have h88 := h88.keep h80 eG233 (by decide)
      have h93 := h93.keep h80 eG233 (by decide)
      have h81 := h81.keep h80 eG233 (by decide)
      have h82 := h82.keep h80 eG233 (by decide)
      have h91 := h91.keep h80 eG233 (by decide)
      have h92 := h92.keep h80 eG233 (by decide)
      have h110 := h110.keep h80 eG233 (by decide)
      have h111 := h111.keep h80 eG233 (by decide)
      have hst := (fx.rf (o := o) (S := [280]) (G := G)).wr h80 eG233 (List.mem_singleton.mpr rfl)
      have ptrI_0 := trI.fr hst ptrI_0 (by decide) (by decide) (by decide) (by decide) (by decide) (by decide) (by decide) (by decide) (by decide) (by decide) (by decide) (by decide) (by decide) (by decide) (by decide) (by decide) (by decide) (by decide)
      have hlen := (z_len eG233).trans hlen
      have hsl := (z_sl h80 eG233 rfl).trans hsl
      have hfr := hfr.wr h80 eG233 (by decide)
      have h80 := h80.kept eG233
      change ab_W _ _ _ (List.set G 80 (ab_ob 12 (mof m_thrown m_taped m_length m_out m_wide m_gathered m_sets m_ranges m_nodes m_at m_flags m_fault m_place m_numbered m_depth m_value m_isNot 1 m_most0 m_slot m_work m_got m_rowMany m_charAt m_charWide m_trail m_isMatch m_matchGroups m_allFrom m_allBefore m_founds m_pieces m_writtenMany m_templateWide m_tooMuch))) 245 [some (vR 80), some (vz (tpk A_tape m_taped m_at)), none, none] [] _
      rw [← eG233]
      refine ab_aload_n d_MO_readPart_245 rfl ?_
      refine ab_iload_n d_MO_readPart_246 rfl ?_
      refine zz_bipush d_MO_readPart_247 (by decide) ?_
      refine zz_icmp_ne (tgt := 256) d_MO_readPart_249 (by decide) (by omega) (by decide) (fun c234 => ?_) (fun c234 => absurd c234 (by omega))
      refine zz_iconst d_MO_readPart_256 ?_
      refine ab_putf (fs := mof m_thrown m_taped m_length m_out m_wide m_gathered m_sets m_ranges m_nodes m_at m_flags m_fault m_place m_numbered m_depth m_value m_isNot 1 m_most0 m_slot m_work m_got m_rowMany m_charAt m_charWide m_trail m_isMatch m_matchGroups m_allFrom m_allBefore m_founds m_pieces m_writtenMany m_templateWide m_tooMuch) f_MO_406 (Or.inl rfl) d_MO_readPart_257 h80.2.2 (Nat.le_of_ble_eq_true rfl) (fun _ => ⟨rfl, rfl⟩) (h80.2.1 (by decide)) ?_
      obtain ⟨G235, eG235⟩ : ∃ z : ab_G, z = List.set G233 80 (ab_ob 12 (mof m_thrown m_taped m_length m_out m_wide m_gathered m_sets m_ranges m_nodes m_at m_flags m_fault m_place m_numbered m_depth m_value m_isNot 1 (-1) m_slot m_work m_got m_rowMany m_charAt m_charWide m_trail m_isMatch m_matchGroups m_allFrom m_allBefore m_founds m_pieces m_writtenMany m_templateWide m_tooMuch)) := ⟨_, rfl⟩
      have h84 := h84.keep h80 eG235 (by decide)
      have h87 := h87.keep h80 eG235 (by decide)
      have h88 := h88.keep h80 eG235 (by decide)
      have h93 := h93.keep h80 eG235 (by decide)
      have h81 := h81.keep h80 eG235 (by decide)
      have h82 := h82.keep h80 eG235 (by decide)
      have h91 := h91.keep h80 eG235 (by decide)
      have h92 := h92.keep h80 eG235 (by decide)
      have h110 := h110.keep h80 eG235 (by decide)
      have h111 := h111.keep h80 eG235 (by decide)
      have hst := (fx.rf (o := o) (S := [280]) (G := G233)).wr h80 eG235 (List.mem_singleton.mpr rfl)
      have ptrI_0 := trI.fr hst ptrI_0 (by decide) (by decide) (by decide) (by decide) (by decide) (by decide) (by decide) (by decide) (by decide) (by decide) (by decide) (by decide) (by decide) (by decide) (by decide) (by decide) (by decide) (by decide)
      have hlen := (z_len eG235).trans hlen
      have hsl := (z_sl h80 eG235 rfl).trans hsl
      have hfr := hfr.wr h80 eG235 (by decide)
      have h80 := h80.kept eG235
      change ab_W _ _ _ (List.set G233 80 (ab_ob 12 (mof m_thrown m_taped m_length m_out m_wide m_gathered m_sets m_ranges m_nodes m_at m_flags m_fault m_place m_numbered m_depth m_value m_isNot 1 (-1) m_slot m_work m_got m_rowMany m_charAt m_charWide m_trail m_isMatch m_matchGroups m_allFrom m_allBefore m_founds m_pieces m_writtenMany m_templateWide m_tooMuch))) 260 [some (vR 80), some (vz (tpk A_tape m_taped m_at)), none, none] [] _
      rw [← eG235]
      refine ab_aload_n d_MO_readPart_260 rfl ?_
      refine zz_iconst d_MO_readPart_261 ?_
      refine ab_callV (d' := d - 1) (as := [vz 1]) (st := []) (r := _) (z_MO_readRepeat (o := o) (m_thrown := m_thrown) (m_taped := m_taped) (m_length := m_length) (m_out := m_out) (m_wide := m_wide) (m_gathered := m_gathered) (m_sets := m_sets) (m_ranges := m_ranges) (m_nodes := m_nodes) (m_at := m_at) (m_flags := m_flags) (m_fault := m_fault) (m_place := m_place) (m_numbered := m_numbered) (m_depth := m_depth) (m_value := m_value) (m_isNot := m_isNot) (m_least0 := 1) (m_most0 := (-1)) (m_slot := m_slot) (m_work := m_work) (m_got := m_got) (m_rowMany := m_rowMany) (m_charAt := m_charAt) (m_charWide := m_charWide) (m_trail := m_trail) (m_isMatch := m_isMatch) (m_matchGroups := m_matchGroups) (m_allFrom := m_allFrom) (m_allBefore := m_allBefore) (m_founds := m_founds) (m_pieces := m_pieces) (m_writtenMany := m_writtenMany) (m_templateWide := m_templateWide) (m_tooMuch := m_tooMuch) (A_tape := A_tape) (LO := LO) (HI := HI) (MK := MK) (RL := RL) (RH := RH) (NS := NS) (NM := NM) (rp := rp) (ls := ls) (a1_ := a1_) (b1_ := b1_) (c1_ := c1_) (d1_ := d1_) (e1_ := e1_) (mo9 := 1000) (t1_ := t1_) (be := 1) (kd9 := 0) h80 h84 h87 h88 h93 h81 h82 h91 h92 h110 h111 ptrI_0 (by omega) (by omega) jtp jmk jrl jrh jns jnm (by omega) (by omega) (by omega) (by omega) (by omega) jnj (by omega) (by omega) (by omega) (by unfold repR; first | (left; omega) | (right; left; omega) | (right; right; left; omega)) (by omega)) (fun oc G2 h => by rcases h with ⟨_, _, _, _, _, _, _, _, _, _, _, _, _, _, _, _, _, _, _, _, _, _, _, _, _, _, _, h, _⟩ | ⟨_, _, _, _, _, _, _, _, _, _, _, _, _, _, _, _, _, _, _, _, _, _, _, _, _, h, _⟩ <;> exact ⟨_, h⟩) (by omega) m_MO_readRepeat ml_MO_427 im_MO_readRepeat se_MO_readRepeat c_MO h80.2.2 (Nat.le_of_ble_eq_true rfl) d_MO_readPart_262 rfl ?_
      intro v G236 hq
      rcases hq with ⟨a2237, v2238, nt2239, w2240, g2241, s2242, r2243, n2244, fl2245, nu2246, d2247, le2248, mo2249, f2250, p2251, LO2252, HI2253, MK2254, RL2255, RH2256, NS2257, NM2258, fr2259, rp2260, ls2261, na2262, nl2263, hv, hfk, hlk, hsk, hN80, hN87, hN88, hN93, hN91, hN92, hN110, hN111, pNtrI_0, hq264, hq265, hq266, hq267, hq268, hq269, hq270, hq271, hq272⟩ | ⟨a2273, v2274, nt2275, w2276, g2277, s2278, r2279, n2280, fl2281, nu2282, d2283, le2284, mo2285, f2286, p2287, LO2288, HI2289, MK2290, RL2291, RH2292, NS2293, NM2294, fr2295, rp2296, ls2297, hv, hfk, hlk, hsk, hN80, hN87, hN88, hN93, hN91, hN92, hN110, hN111, pNtrI_0, hq298, hq299, hq300, hq301, hq302, hq303, hq304⟩
      · cases hv
        have h84 := hfk.get h84 (by decide)
        have h81 := hfk.get h81 (by decide)
        have h82 := hfk.get h82 (by decide)
        have ptrI_0 := pNtrI_0
        have hfr := hfr.tr hfk (by decide)
        have hlen := hlk.trans hlen
        have hsl := hsk.trans hsl
        have h80 := hN80
        have h87 := hN87
        have h88 := hN88
        have h93 := hN93
        have h91 := hN91
        have h92 := hN92
        have h110 := hN110
        have h111 := hN111
        change ab_W _ _ _ G236 265 [some (vR 80), some (vz (tpk A_tape m_taped m_at)), none, none] [] _
        refine ab_goto (tgt := 312) d_MO_readPart_265 (by decide) ?_
        refine ab_vret rfl d_MO_readPart_312 ?_
        rw [hQ]; exact (Or.inl ⟨_, _, _, _, _, _, _, _, _, _, _, _, _, _, _, _, _, _, _, _, _, _, fr2259, rp2260, ls2261, na2262, nl2263, rfl, hfr, hlen, hsl, h80, h87, h88, h93, h91, h92, h110, h111, ptrI_0, (by omega), (by first | exact hq265 | exact rgs_w hq265 (by omega)), (by first | exact hq266 | exact rgs_w hq266 (by omega)), (by first | exact hq267 | exact rgs_w hq267 (by omega)), (by first | exact hq268 | exact rgs_w hq268 (by omega)), (by first | exact hq269 | exact rgs_w hq269 (by omega)), (by omega), (by exact hq271), (by exact hq272)⟩)
      · cases hv
        have h84 := hfk.get h84 (by decide)
        have h81 := hfk.get h81 (by decide)
        have h82 := hfk.get h82 (by decide)
        have ptrI_0 := pNtrI_0
        have hfr := hfr.tr hfk (by decide)
        have hlen := hlk.trans hlen
        have hsl := hsk.trans hsl
        have h80 := hN80
        have h87 := hN87
        have h88 := hN88
        have h93 := hN93
        have h91 := hN91
        have h92 := hN92
        have h110 := hN110
        have h111 := hN111
        change ab_W _ _ _ G236 265 [some (vR 80), some (vz (tpk A_tape m_taped m_at)), none, none] [] _
        refine ab_goto (tgt := 312) d_MO_readPart_265 (by decide) ?_
        refine ab_vret rfl d_MO_readPart_312 ?_
        rw [hQ]; exact (Or.inr ⟨_, _, _, _, _, _, _, _, _, _, _, _, _, _, _, _, _, _, _, _, _, _, fr2295, rp2296, ls2297, rfl, hfr, hlen, hsl, h80, h87, h88, h93, h91, h92, h110, h111, ptrI_0, (by omega), (by first | exact hq299 | exact rgs_w hq299 (by omega)), (by first | exact hq300 | exact rgs_w hq300 (by omega)), (by first | exact hq301 | exact rgs_w hq301 (by omega)), (by first | exact hq302 | exact rgs_w hq302 (by omega)), (by first | exact hq303 | exact rgs_w hq303 (by omega)), (by exact hq304)⟩)
    replace c231 : nzq (tpk A_tape m_taped m_at) 43 := c231
    by_cases c305 : (tpk A_tape m_taped m_at) = 46
    · refine zz_lookup (off := 111) (tgt := 118) d_MO_readPart_7 (by decide) (by omega) (by rw [c305]; decide) (by decide) ?_
      refine ab_aload_n d_MO_readPart_118 rfl ?_
      refine ab_callV (d' := d - 1) (as := []) (st := []) (r := _) (z_MO_readDot (o := o) (m_thrown := m_thrown) (m_taped := m_taped) (m_length := m_length) (m_out := m_out) (m_wide := m_wide) (m_gathered := m_gathered) (m_sets := m_sets) (m_ranges := m_ranges) (m_nodes := m_nodes) (m_at := m_at) (m_flags := m_flags) (m_fault := m_fault) (m_place := m_place) (m_numbered := m_numbered) (m_depth := m_depth) (m_value := m_value) (m_isNot := m_isNot) (m_least0 := m_least0) (m_most0 := m_most0) (m_slot := m_slot) (m_work := m_work) (m_got := m_got) (m_rowMany := m_rowMany) (m_charAt := m_charAt) (m_charWide := m_charWide) (m_trail := m_trail) (m_isMatch := m_isMatch) (m_matchGroups := m_matchGroups) (m_allFrom := m_allFrom) (m_allBefore := m_allBefore) (m_founds := m_founds) (m_pieces := m_pieces) (m_writtenMany := m_writtenMany) (m_templateWide := m_templateWide) (m_tooMuch := m_tooMuch) (A_tape := A_tape) (LO := LO) (HI := HI) (MK := MK) (RL := RL) (RH := RH) (NS := NS) (NM := NM) (rp := rp) (ls := ls) (a1_ := a1_) (b1_ := b1_) (c1_ := c1_) (d1_ := d1_) (e1_ := e1_) (t1_ := t1_) h80 h84 h87 h88 h93 h81 h82 h91 h92 h110 h111 ptrI_0 (by omega) (by omega) jtp jmk jrl jrh jns jnm (by omega) (by omega) (by omega) (by omega) (by omega) (by omega)) (fun oc G2 h => by rcases h with ⟨_, _, _, _, _, _, _, _, _, _, _, _, _, _, _, _, h, _⟩ <;> exact ⟨_, h⟩) (by omega) m_MO_readDot ml_MO_418 im_MO_readDot se_MO_readDot c_MO h80.2.2 (Nat.le_of_ble_eq_true rfl) d_MO_readPart_119 rfl ?_
      intro v G306 hq
      rcases hq with ⟨a2307, g2308, s2309, r2310, n2311, v2312, nt2313, w2314, f2315, p2316, z9317, LO2318, HI2319, MK2320, RL2321, RH2322, hv, hfk, hlk, hsk, hN80, hN87, hN88, hN93, hN91, hN92, hN110, hN111, pNtrI_0, hq323, hq324, hq325, hq326, hq327⟩
      cases hv
      have h84 := hfk.get h84 (by decide)
      have h81 := hfk.get h81 (by decide)
      have h82 := hfk.get h82 (by decide)
      have ptrI_0 := pNtrI_0
      have hfr := hfr.tr hfk (by decide)
      have hlen := hlk.trans hlen
      have hsl := hsk.trans hsl
      have h80 := hN80
      have h87 := hN87
      have h88 := hN88
      have h93 := hN93
      have h91 := hN91
      have h92 := hN92
      have h110 := hN110
      have h111 := hN111
      change ab_W _ _ _ G306 122 [some (vR 80), some (vz (tpk A_tape m_taped m_at)), none, none] [] _
      refine ab_goto (tgt := 312) d_MO_readPart_122 (by decide) ?_
      refine ab_vret rfl d_MO_readPart_312 ?_
      rw [hQ]; exact (Or.inl ⟨_, _, _, _, _, _, _, _, _, _, _, _, _, _, _, _, _, _, _, _, _, _, ((a1_, b1_, c1_, d1_, (e1_ + z9317)) :: t1_), 1, z9317, na, nl, rfl, hfr, hlen, hsl, h80, h87, h88, h93, h91, h92, h110, h111, ptrI_0, (by omega), (by first | exact hq324 | exact rgs_w hq324 (by omega)), (by first | exact hq325 | exact rgs_w hq325 (by omega)), (by first | exact hq326 | exact rgs_w hq326 (by omega)), (by first | exact jns | exact rgs_w jns (by omega)), (by first | exact jnm | exact rgs_w jnm (by omega)), (by omega), (by exact jnj), (by exact stp_leaf hq327)⟩)
    replace c305 : nzq (tpk A_tape m_taped m_at) 46 := c305
    by_cases c328 : (tpk A_tape m_taped m_at) = 63
    · refine zz_lookup (off := 223) (tgt := 230) d_MO_readPart_7 (by decide) (by omega) (by rw [c328]; decide) (by decide) ?_
      refine ab_aload_n d_MO_readPart_230 rfl ?_
      refine ab_iload_n d_MO_readPart_231 rfl ?_
      refine zz_bipush d_MO_readPart_232 (by decide) ?_
      refine zz_icmp_ne (tgt := 241) d_MO_readPart_234 (by decide) (by omega) (by decide) (fun c329 => ?_) (fun c329 => absurd c329 (by omega))
      refine zz_iconst d_MO_readPart_241 ?_
      refine ab_putf (fs := mof m_thrown m_taped m_length m_out m_wide m_gathered m_sets m_ranges m_nodes m_at m_flags m_fault m_place m_numbered m_depth m_value m_isNot m_least0 m_most0 m_slot m_work m_got m_rowMany m_charAt m_charWide m_trail m_isMatch m_matchGroups m_allFrom m_allBefore m_founds m_pieces m_writtenMany m_templateWide m_tooMuch) f_MO_403 (Or.inl rfl) d_MO_readPart_242 h80.2.2 (Nat.le_of_ble_eq_true rfl) (fun _ => ⟨rfl, rfl⟩) (h80.2.1 (by decide)) ?_
      obtain ⟨G330, eG330⟩ : ∃ z : ab_G, z = List.set G 80 (ab_ob 12 (mof m_thrown m_taped m_length m_out m_wide m_gathered m_sets m_ranges m_nodes m_at m_flags m_fault m_place m_numbered m_depth m_value m_isNot 0 m_most0 m_slot m_work m_got m_rowMany m_charAt m_charWide m_trail m_isMatch m_matchGroups m_allFrom m_allBefore m_founds m_pieces m_writtenMany m_templateWide m_tooMuch)) := ⟨_, rfl⟩
      have h84 := h84.keep h80 eG330 (by decide)
      have h87 := h87.keep h80 eG330 (by decide)
      have h88 := h88.keep h80 eG330 (by decide)
      have h93 := h93.keep h80 eG330 (by decide)
      have h81 := h81.keep h80 eG330 (by decide)
      have h82 := h82.keep h80 eG330 (by decide)
      have h91 := h91.keep h80 eG330 (by decide)
      have h92 := h92.keep h80 eG330 (by decide)
      have h110 := h110.keep h80 eG330 (by decide)
      have h111 := h111.keep h80 eG330 (by decide)
      have hst := (fx.rf (o := o) (S := [280]) (G := G)).wr h80 eG330 (List.mem_singleton.mpr rfl)
      have ptrI_0 := trI.fr hst ptrI_0 (by decide) (by decide) (by decide) (by decide) (by decide) (by decide) (by decide) (by decide) (by decide) (by decide) (by decide) (by decide) (by decide) (by decide) (by decide) (by decide) (by decide) (by decide)
      have hlen := (z_len eG330).trans hlen
      have hsl := (z_sl h80 eG330 rfl).trans hsl
      have hfr := hfr.wr h80 eG330 (by decide)
      have h80 := h80.kept eG330
      change ab_W _ _ _ (List.set G 80 (ab_ob 12 (mof m_thrown m_taped m_length m_out m_wide m_gathered m_sets m_ranges m_nodes m_at m_flags m_fault m_place m_numbered m_depth m_value m_isNot 0 m_most0 m_slot m_work m_got m_rowMany m_charAt m_charWide m_trail m_isMatch m_matchGroups m_allFrom m_allBefore m_founds m_pieces m_writtenMany m_templateWide m_tooMuch))) 245 [some (vR 80), some (vz (tpk A_tape m_taped m_at)), none, none] [] _
      rw [← eG330]
      refine ab_aload_n d_MO_readPart_245 rfl ?_
      refine ab_iload_n d_MO_readPart_246 rfl ?_
      refine zz_bipush d_MO_readPart_247 (by decide) ?_
      refine zz_icmp_ne (tgt := 256) d_MO_readPart_249 (by decide) (by omega) (by decide) (fun c331 => absurd c331 (by omega)) (fun c331 => ?_)
      refine zz_iconst d_MO_readPart_252 ?_
      refine ab_goto (tgt := 257) d_MO_readPart_253 (by decide) ?_
      refine ab_putf (fs := mof m_thrown m_taped m_length m_out m_wide m_gathered m_sets m_ranges m_nodes m_at m_flags m_fault m_place m_numbered m_depth m_value m_isNot 0 m_most0 m_slot m_work m_got m_rowMany m_charAt m_charWide m_trail m_isMatch m_matchGroups m_allFrom m_allBefore m_founds m_pieces m_writtenMany m_templateWide m_tooMuch) f_MO_406 (Or.inl rfl) d_MO_readPart_257 h80.2.2 (Nat.le_of_ble_eq_true rfl) (fun _ => ⟨rfl, rfl⟩) (h80.2.1 (by decide)) ?_
      obtain ⟨G332, eG332⟩ : ∃ z : ab_G, z = List.set G330 80 (ab_ob 12 (mof m_thrown m_taped m_length m_out m_wide m_gathered m_sets m_ranges m_nodes m_at m_flags m_fault m_place m_numbered m_depth m_value m_isNot 0 1 m_slot m_work m_got m_rowMany m_charAt m_charWide m_trail m_isMatch m_matchGroups m_allFrom m_allBefore m_founds m_pieces m_writtenMany m_templateWide m_tooMuch)) := ⟨_, rfl⟩
      have h84 := h84.keep h80 eG332 (by decide)
      have h87 := h87.keep h80 eG332 (by decide)
      have h88 := h88.keep h80 eG332 (by decide)
      have h93 := h93.keep h80 eG332 (by decide)
      have h81 := h81.keep h80 eG332 (by decide)
      have h82 := h82.keep h80 eG332 (by decide)
      have h91 := h91.keep h80 eG332 (by decide)
      have h92 := h92.keep h80 eG332 (by decide)
      have h110 := h110.keep h80 eG332 (by decide)
      have h111 := h111.keep h80 eG332 (by decide)
      have hst := (fx.rf (o := o) (S := [280]) (G := G330)).wr h80 eG332 (List.mem_singleton.mpr rfl)
      have ptrI_0 := trI.fr hst ptrI_0 (by decide) (by decide) (by decide) (by decide) (by decide) (by decide) (by decide) (by decide) (by decide) (by decide) (by decide) (by decide) (by decide) (by decide) (by decide) (by decide) (by decide) (by decide)
      have hlen := (z_len eG332).trans hlen
      have hsl := (z_sl h80 eG332 rfl).trans hsl
      have hfr := hfr.wr h80 eG332 (by decide)
      have h80 := h80.kept eG332
      change ab_W _ _ _ (List.set G330 80 (ab_ob 12 (mof m_thrown m_taped m_length m_out m_wide m_gathered m_sets m_ranges m_nodes m_at m_flags m_fault m_place m_numbered m_depth m_value m_isNot 0 1 m_slot m_work m_got m_rowMany m_charAt m_charWide m_trail m_isMatch m_matchGroups m_allFrom m_allBefore m_founds m_pieces m_writtenMany m_templateWide m_tooMuch))) 260 [some (vR 80), some (vz (tpk A_tape m_taped m_at)), none, none] [] _
      rw [← eG332]
      refine ab_aload_n d_MO_readPart_260 rfl ?_
      refine zz_iconst d_MO_readPart_261 ?_
      refine ab_callV (d' := d - 1) (as := [vz 1]) (st := []) (r := _) (z_MO_readRepeat (o := o) (m_thrown := m_thrown) (m_taped := m_taped) (m_length := m_length) (m_out := m_out) (m_wide := m_wide) (m_gathered := m_gathered) (m_sets := m_sets) (m_ranges := m_ranges) (m_nodes := m_nodes) (m_at := m_at) (m_flags := m_flags) (m_fault := m_fault) (m_place := m_place) (m_numbered := m_numbered) (m_depth := m_depth) (m_value := m_value) (m_isNot := m_isNot) (m_least0 := 0) (m_most0 := 1) (m_slot := m_slot) (m_work := m_work) (m_got := m_got) (m_rowMany := m_rowMany) (m_charAt := m_charAt) (m_charWide := m_charWide) (m_trail := m_trail) (m_isMatch := m_isMatch) (m_matchGroups := m_matchGroups) (m_allFrom := m_allFrom) (m_allBefore := m_allBefore) (m_founds := m_founds) (m_pieces := m_pieces) (m_writtenMany := m_writtenMany) (m_templateWide := m_templateWide) (m_tooMuch := m_tooMuch) (A_tape := A_tape) (LO := LO) (HI := HI) (MK := MK) (RL := RL) (RH := RH) (NS := NS) (NM := NM) (rp := rp) (ls := ls) (a1_ := a1_) (b1_ := b1_) (c1_ := c1_) (d1_ := d1_) (e1_ := e1_) (mo9 := 1) (t1_ := t1_) (be := 1) (kd9 := 0) h80 h84 h87 h88 h93 h81 h82 h91 h92 h110 h111 ptrI_0 (by omega) (by omega) jtp jmk jrl jrh jns jnm (by omega) (by omega) (by omega) (by omega) (by omega) jnj (by omega) (by omega) (by omega) (by unfold repR; first | (left; omega) | (right; left; omega) | (right; right; left; omega)) (by omega)) (fun oc G2 h => by rcases h with ⟨_, _, _, _, _, _, _, _, _, _, _, _, _, _, _, _, _, _, _, _, _, _, _, _, _, _, _, h, _⟩ | ⟨_, _, _, _, _, _, _, _, _, _, _, _, _, _, _, _, _, _, _, _, _, _, _, _, _, h, _⟩ <;> exact ⟨_, h⟩) (by omega) m_MO_readRepeat ml_MO_427 im_MO_readRepeat se_MO_readRepeat c_MO h80.2.2 (Nat.le_of_ble_eq_true rfl) d_MO_readPart_262 rfl ?_
      intro v G333 hq
      rcases hq with ⟨a2334, v2335, nt2336, w2337, g2338, s2339, r2340, n2341, fl2342, nu2343, d2344, le2345, mo2346, f2347, p2348, LO2349, HI2350, MK2351, RL2352, RH2353, NS2354, NM2355, fr2356, rp2357, ls2358, na2359, nl2360, hv, hfk, hlk, hsk, hN80, hN87, hN88, hN93, hN91, hN92, hN110, hN111, pNtrI_0, hq361, hq362, hq363, hq364, hq365, hq366, hq367, hq368, hq369⟩ | ⟨a2370, v2371, nt2372, w2373, g2374, s2375, r2376, n2377, fl2378, nu2379, d2380, le2381, mo2382, f2383, p2384, LO2385, HI2386, MK2387, RL2388, RH2389, NS2390, NM2391, fr2392, rp2393, ls2394, hv, hfk, hlk, hsk, hN80, hN87, hN88, hN93, hN91, hN92, hN110, hN111, pNtrI_0, hq395, hq396, hq397, hq398, hq399, hq400, hq401⟩
      · cases hv
        have h84 := hfk.get h84 (by decide)
        have h81 := hfk.get h81 (by decide)
        have h82 := hfk.get h82 (by decide)
        have ptrI_0 := pNtrI_0
        have hfr := hfr.tr hfk (by decide)
        have hlen := hlk.trans hlen
        have hsl := hsk.trans hsl
        have h80 := hN80
        have h87 := hN87
        have h88 := hN88
        have h93 := hN93
        have h91 := hN91
        have h92 := hN92
        have h110 := hN110
        have h111 := hN111
        change ab_W _ _ _ G333 265 [some (vR 80), some (vz (tpk A_tape m_taped m_at)), none, none] [] _
        refine ab_goto (tgt := 312) d_MO_readPart_265 (by decide) ?_
        refine ab_vret rfl d_MO_readPart_312 ?_
        rw [hQ]; exact (Or.inl ⟨_, _, _, _, _, _, _, _, _, _, _, _, _, _, _, _, _, _, _, _, _, _, fr2356, rp2357, ls2358, na2359, nl2360, rfl, hfr, hlen, hsl, h80, h87, h88, h93, h91, h92, h110, h111, ptrI_0, (by omega), (by first | exact hq362 | exact rgs_w hq362 (by omega)), (by first | exact hq363 | exact rgs_w hq363 (by omega)), (by first | exact hq364 | exact rgs_w hq364 (by omega)), (by first | exact hq365 | exact rgs_w hq365 (by omega)), (by first | exact hq366 | exact rgs_w hq366 (by omega)), (by omega), (by exact hq368), (by exact hq369)⟩)
      · cases hv
        have h84 := hfk.get h84 (by decide)
        have h81 := hfk.get h81 (by decide)
        have h82 := hfk.get h82 (by decide)
        have ptrI_0 := pNtrI_0
        have hfr := hfr.tr hfk (by decide)
        have hlen := hlk.trans hlen
        have hsl := hsk.trans hsl
        have h80 := hN80
        have h87 := hN87
        have h88 := hN88
        have h93 := hN93
        have h91 := hN91
        have h92 := hN92
        have h110 := hN110
        have h111 := hN111
        change ab_W _ _ _ G333 265 [some (vR 80), some (vz (tpk A_tape m_taped m_at)), none, none] [] _
        refine ab_goto (tgt := 312) d_MO_readPart_265 (by decide) ?_
        refine ab_vret rfl d_MO_readPart_312 ?_
        rw [hQ]; exact (Or.inr ⟨_, _, _, _, _, _, _, _, _, _, _, _, _, _, _, _, _, _, _, _, _, _, fr2392, rp2393, ls2394, rfl, hfr, hlen, hsl, h80, h87, h88, h93, h91, h92, h110, h111, ptrI_0, (by omega), (by first | exact hq396 | exact rgs_w hq396 (by omega)), (by first | exact hq397 | exact rgs_w hq397 (by omega)), (by first | exact hq398 | exact rgs_w hq398 (by omega)), (by first | exact hq399 | exact rgs_w hq399 (by omega)), (by first | exact hq400 | exact rgs_w hq400 (by omega)), (by exact hq401)⟩)
    replace c328 : nzq (tpk A_tape m_taped m_at) 63 := c328
    by_cases c402 : (tpk A_tape m_taped m_at) = 91
    · refine zz_lookup (off := 104) (tgt := 111) d_MO_readPart_7 (by decide) (by omega) (by rw [c402]; decide) (by decide) ?_
      refine ab_aload_n d_MO_readPart_111 rfl ?_
      refine ab_callV (d' := d - 1) (as := []) (st := []) (r := _) (z_MO_readClass (o := o) (m_thrown := m_thrown) (m_taped := m_taped) (m_length := m_length) (m_out := m_out) (m_wide := m_wide) (m_gathered := m_gathered) (m_sets := m_sets) (m_ranges := m_ranges) (m_nodes := m_nodes) (m_at := m_at) (m_flags := m_flags) (m_fault := m_fault) (m_place := m_place) (m_numbered := m_numbered) (m_depth := m_depth) (m_value := m_value) (m_isNot := m_isNot) (m_least0 := m_least0) (m_most0 := m_most0) (m_slot := m_slot) (m_work := m_work) (m_got := m_got) (m_rowMany := m_rowMany) (m_charAt := m_charAt) (m_charWide := m_charWide) (m_trail := m_trail) (m_isMatch := m_isMatch) (m_matchGroups := m_matchGroups) (m_allFrom := m_allFrom) (m_allBefore := m_allBefore) (m_founds := m_founds) (m_pieces := m_pieces) (m_writtenMany := m_writtenMany) (m_templateWide := m_templateWide) (m_tooMuch := m_tooMuch) (A_tape := A_tape) (LO := LO) (HI := HI) (MK := MK) (RL := RL) (RH := RH) (NS := NS) (NM := NM) (rp := rp) (ls := ls) (a1_ := a1_) (b1_ := b1_) (c1_ := c1_) (d1_ := d1_) (e1_ := e1_) (t1_ := t1_) h80 h84 h87 h88 h93 h81 h82 h91 h92 h110 h111 ptrI_0 (by omega) (by omega) jtp jmk jrl jrh jns jnm (by omega) (by omega) (by omega) (by omega) (by omega) (by omega)) (fun oc G2 h => by rcases h with ⟨_, _, _, _, _, _, _, _, _, _, _, _, _, _, _, _, h, _⟩ | ⟨_, _, _, _, _, _, _, _, _, _, h, _⟩ <;> exact ⟨_, h⟩) (by omega) m_MO_readClass ml_MO_415 im_MO_readClass se_MO_readClass c_MO h80.2.2 (Nat.le_of_ble_eq_true rfl) d_MO_readPart_112 rfl ?_
      intro v G403 hq
      rcases hq with ⟨a2404, g2405, s2406, r2407, n2408, v2409, nt2410, w2411, f2412, p2413, z9414, LO2415, HI2416, MK2417, RL2418, RH2419, hv, hfk, hlk, hsk, hN80, hN87, hN88, hN93, hN91, hN92, hN110, hN111, pNtrI_0, hq420, hq421, hq422, hq423, hq424⟩ | ⟨a2425, f2426, p2427, g2428, v2429, nt2430, w2431, LO2432, HI2433, MK2434, hv, hfk, hlk, hsk, hN80, hN87, hN88, hN93, hN91, hN92, hN110, hN111, pNtrI_0, hq435, hq436, hq437⟩
      · cases hv
        have h84 := hfk.get h84 (by decide)
        have h81 := hfk.get h81 (by decide)
        have h82 := hfk.get h82 (by decide)
        have ptrI_0 := pNtrI_0
        have hfr := hfr.tr hfk (by decide)
        have hlen := hlk.trans hlen
        have hsl := hsk.trans hsl
        have h80 := hN80
        have h87 := hN87
        have h88 := hN88
        have h93 := hN93
        have h91 := hN91
        have h92 := hN92
        have h110 := hN110
        have h111 := hN111
        change ab_W _ _ _ G403 115 [some (vR 80), some (vz (tpk A_tape m_taped m_at)), none, none] [] _
        refine ab_goto (tgt := 312) d_MO_readPart_115 (by decide) ?_
        refine ab_vret rfl d_MO_readPart_312 ?_
        rw [hQ]; exact (Or.inl ⟨_, _, _, _, _, _, _, _, _, _, _, _, _, _, _, _, _, _, _, _, _, _, ((a1_, b1_, c1_, d1_, (e1_ + z9414)) :: t1_), 1, z9414, na, nl, rfl, hfr, hlen, hsl, h80, h87, h88, h93, h91, h92, h110, h111, ptrI_0, (by omega), (by first | exact hq421 | exact rgs_w hq421 (by omega)), (by first | exact hq422 | exact rgs_w hq422 (by omega)), (by first | exact hq423 | exact rgs_w hq423 (by omega)), (by first | exact jns | exact rgs_w jns (by omega)), (by first | exact jnm | exact rgs_w jnm (by omega)), (by omega), (by exact jnj), (by exact stp_leaf hq424)⟩)
      · cases hv
        have h84 := hfk.get h84 (by decide)
        have h81 := hfk.get h81 (by decide)
        have h82 := hfk.get h82 (by decide)
        have ptrI_0 := pNtrI_0
        have hfr := hfr.tr hfk (by decide)
        have hlen := hlk.trans hlen
        have hsl := hsk.trans hsl
        have h80 := hN80
        have h87 := hN87
        have h88 := hN88
        have h93 := hN93
        have h91 := hN91
        have h92 := hN92
        have h110 := hN110
        have h111 := hN111
        change ab_W _ _ _ G403 115 [some (vR 80), some (vz (tpk A_tape m_taped m_at)), none, none] [] _
        refine ab_goto (tgt := 312) d_MO_readPart_115 (by decide) ?_
        refine ab_vret rfl d_MO_readPart_312 ?_
        rw [hQ]; exact (Or.inr ⟨_, _, _, _, _, _, _, _, _, _, _, _, _, _, _, _, _, _, _, _, _, _, ((a1_, b1_, c1_, d1_, e1_) :: t1_), rp, ls, rfl, hfr, hlen, hsl, h80, h87, h88, h93, h91, h92, h110, h111, ptrI_0, (by omega), (by first | exact hq436 | exact rgs_w hq436 (by omega)), (by first | exact jrl | exact rgs_w jrl (by omega)), (by first | exact jrh | exact rgs_w jrh (by omega)), (by first | exact jns | exact rgs_w jns (by omega)), (by first | exact jnm | exact rgs_w jnm (by omega)), (by exact stF_lf hq437)⟩)
    replace c402 : nzq (tpk A_tape m_taped m_at) 91 := c402
    by_cases c438 : (tpk A_tape m_taped m_at) = 92
    · refine zz_lookup (off := 97) (tgt := 104) d_MO_readPart_7 (by decide) (by omega) (by rw [c438]; decide) (by decide) ?_
      refine ab_aload_n d_MO_readPart_104 rfl ?_
      refine ab_callV (d' := d - 1) (as := []) (st := []) (r := _) (z_MO_readEscape (o := o) (m_thrown := m_thrown) (m_taped := m_taped) (m_length := m_length) (m_out := m_out) (m_wide := m_wide) (m_gathered := m_gathered) (m_sets := m_sets) (m_ranges := m_ranges) (m_nodes := m_nodes) (m_at := m_at) (m_flags := m_flags) (m_fault := m_fault) (m_place := m_place) (m_numbered := m_numbered) (m_depth := m_depth) (m_value := m_value) (m_isNot := m_isNot) (m_least0 := m_least0) (m_most0 := m_most0) (m_slot := m_slot) (m_work := m_work) (m_got := m_got) (m_rowMany := m_rowMany) (m_charAt := m_charAt) (m_charWide := m_charWide) (m_trail := m_trail) (m_isMatch := m_isMatch) (m_matchGroups := m_matchGroups) (m_allFrom := m_allFrom) (m_allBefore := m_allBefore) (m_founds := m_founds) (m_pieces := m_pieces) (m_writtenMany := m_writtenMany) (m_templateWide := m_templateWide) (m_tooMuch := m_tooMuch) (A_tape := A_tape) (LO := LO) (HI := HI) (MK := MK) (RL := RL) (RH := RH) (NS := NS) (NM := NM) (rp := rp) (ls := ls) (a1_ := a1_) (b1_ := b1_) (c1_ := c1_) (d1_ := d1_) (e1_ := e1_) (t1_ := t1_) h80 h84 h87 h88 h93 h81 h82 h91 h92 h110 h111 ptrI_0 (by omega) (by omega) jtp jmk jrl jrh jns jnm (by omega) (by omega) (by omega) (by omega) (by omega) (by omega)) (fun oc G2 h => by rcases h with ⟨_, _, _, _, _, _, _, _, _, _, _, _, _, _, _, _, h, _⟩ | ⟨_, _, _, _, _, _, _, _, _, _, h, _⟩ <;> exact ⟨_, h⟩) (by omega) m_MO_readEscape ml_MO_412 im_MO_readEscape se_MO_readEscape c_MO h80.2.2 (Nat.le_of_ble_eq_true rfl) d_MO_readPart_105 rfl ?_
      intro v G439 hq
      rcases hq with ⟨a2440, g2441, s2442, r2443, n2444, v2445, nt2446, w2447, f2448, p2449, z9450, LO2451, HI2452, MK2453, RL2454, RH2455, hv, hfk, hlk, hsk, hN80, hN87, hN88, hN93, hN91, hN92, hN110, hN111, pNtrI_0, hq456, hq457, hq458, hq459, hq460⟩ | ⟨a2461, f2462, p2463, g2464, v2465, nt2466, w2467, LO2468, HI2469, MK2470, hv, hfk, hlk, hsk, hN80, hN87, hN88, hN93, hN91, hN92, hN110, hN111, pNtrI_0, hq471, hq472, hq473⟩
      · cases hv
        have h84 := hfk.get h84 (by decide)
        have h81 := hfk.get h81 (by decide)
        have h82 := hfk.get h82 (by decide)
        have ptrI_0 := pNtrI_0
        have hfr := hfr.tr hfk (by decide)
        have hlen := hlk.trans hlen
        have hsl := hsk.trans hsl
        have h80 := hN80
        have h87 := hN87
        have h88 := hN88
        have h93 := hN93
        have h91 := hN91
        have h92 := hN92
        have h110 := hN110
        have h111 := hN111
        change ab_W _ _ _ G439 108 [some (vR 80), some (vz (tpk A_tape m_taped m_at)), none, none] [] _
        refine ab_goto (tgt := 312) d_MO_readPart_108 (by decide) ?_
        refine ab_vret rfl d_MO_readPart_312 ?_
        rw [hQ]; exact (Or.inl ⟨_, _, _, _, _, _, _, _, _, _, _, _, _, _, _, _, _, _, _, _, _, _, ((a1_, b1_, c1_, d1_, (e1_ + z9450)) :: t1_), 1, z9450, na, nl, rfl, hfr, hlen, hsl, h80, h87, h88, h93, h91, h92, h110, h111, ptrI_0, (by omega), (by first | exact hq457 | exact rgs_w hq457 (by omega)), (by first | exact hq458 | exact rgs_w hq458 (by omega)), (by first | exact hq459 | exact rgs_w hq459 (by omega)), (by first | exact jns | exact rgs_w jns (by omega)), (by first | exact jnm | exact rgs_w jnm (by omega)), (by omega), (by exact jnj), (by exact stp_leaf hq460)⟩)
      · cases hv
        have h84 := hfk.get h84 (by decide)
        have h81 := hfk.get h81 (by decide)
        have h82 := hfk.get h82 (by decide)
        have ptrI_0 := pNtrI_0
        have hfr := hfr.tr hfk (by decide)
        have hlen := hlk.trans hlen
        have hsl := hsk.trans hsl
        have h80 := hN80
        have h87 := hN87
        have h88 := hN88
        have h93 := hN93
        have h91 := hN91
        have h92 := hN92
        have h110 := hN110
        have h111 := hN111
        change ab_W _ _ _ G439 108 [some (vR 80), some (vz (tpk A_tape m_taped m_at)), none, none] [] _
        refine ab_goto (tgt := 312) d_MO_readPart_108 (by decide) ?_
        refine ab_vret rfl d_MO_readPart_312 ?_
        rw [hQ]; exact (Or.inr ⟨_, _, _, _, _, _, _, _, _, _, _, _, _, _, _, _, _, _, _, _, _, _, ((a1_, b1_, c1_, d1_, e1_) :: t1_), rp, ls, rfl, hfr, hlen, hsl, h80, h87, h88, h93, h91, h92, h110, h111, ptrI_0, (by omega), (by first | exact hq472 | exact rgs_w hq472 (by omega)), (by first | exact jrl | exact rgs_w jrl (by omega)), (by first | exact jrh | exact rgs_w jrh (by omega)), (by first | exact jns | exact rgs_w jns (by omega)), (by first | exact jnm | exact rgs_w jnm (by omega)), (by exact stF_lf hq473)⟩)
    replace c438 : nzq (tpk A_tape m_taped m_at) 92 := c438
    by_cases c474 : (tpk A_tape m_taped m_at) = 94
    · refine zz_lookup (off := 149) (tgt := 156) d_MO_readPart_7 (by decide) (by omega) (by rw [c474]; decide) (by decide) ?_
      obtain ⟨K, O, Fi, Be, Le, Mo, Z, LZ, SM, SA, QF, QL, AF, AL, SD, OA, OF, ON, h94, h95, h96, h97, h98, h99, h100, h101, h90, h89, h105, h106, h107, h108, h109, h102, h103, h104, jk, jo, jfi, jbe, jle, jmo, jz, jlz, jsm, jsa, jqf, jql, jaf, jal, jsd, joa, jof, jon, jt, cnd, cre, crs, crz, ck5, ck6, ck7, jss⟩ := ptrI_0
      refine ab_aload_n d_MO_readPart_156 rfl ?_
      refine ab_aload_n d_MO_readPart_157 rfl ?_
      refine zz_iconst d_MO_readPart_158 ?_
      refine ab_aload_n d_MO_readPart_159 rfl ?_
      refine zz_iconst d_MO_readPart_160 ?_
      refine ab_callV (d' := d - 1) (as := [vz 2]) (st := [vz 3, vR 80, vR 80]) (r := _) (z2_MO_has (o := o) (m_thrown := m_thrown) (m_taped := m_taped) (m_length := m_length) (m_out := m_out) (m_wide := m_wide) (m_gathered := m_gathered) (m_sets := m_sets) (m_ranges := m_ranges) (m_nodes := m_nodes) (m_at := m_at) (m_flags := m_flags) (m_fault := m_fault) (m_place := m_place) (m_numbered := m_numbered) (m_depth := m_depth) (m_value := m_value) (m_isNot := m_isNot) (m_least0 := m_least0) (m_most0 := m_most0) (m_slot := m_slot) (m_work := m_work) (m_got := m_got) (m_rowMany := m_rowMany) (m_charAt := m_charAt) (m_charWide := m_charWide) (m_trail := m_trail) (m_isMatch := m_isMatch) (m_matchGroups := m_matchGroups) (m_allFrom := m_allFrom) (m_allBefore := m_allBefore) (m_founds := m_founds) (m_pieces := m_pieces) (m_writtenMany := m_writtenMany) (m_templateWide := m_templateWide) (m_tooMuch := m_tooMuch) h80 (by omega)) (fun oc G2 h => by rcases h with ⟨_, h, _⟩ <;> exact ⟨_, h⟩) (by omega) m_MO_has ml_MO_355 im_MO_has se_MO_has c_MO h80.2.2 (Nat.le_of_ble_eq_true rfl) d_MO_readPart_161 rfl ?_
      intro v G475 hq
      rcases hq with ⟨v476, hv, hGe, hq477, hq478⟩
      cases hv
      rw [hGe]
      change ab_W _ _ _ G 164 [some (vR 80), some (vz (tpk A_tape m_taped m_at)), none, none] [vz v476, vz 3, vR 80, vR 80] _
      refine zz_if_eq (tgt := 171) d_MO_readPart_164 (by decide) (by omega) (fun c479 => ?_) (fun c479 => ?_)
      · refine zz_iconst d_MO_readPart_171 ?_
        refine zz_lconst d_MO_readPart_172 ?_
        change ab_W _ _ _ G 173 [some (vR 80), some (vz (tpk A_tape m_taped m_at)), none, none] [vj 1, vz 0, vz 3, vR 80, vR 80] _
        refine ab_callV (d' := d - 1) (as := [vz 3, vz 0, vj 1]) (st := [vR 80]) (r := _) (z_MO_node (o := o) (m_thrown := m_thrown) (m_taped := m_taped) (m_length := m_length) (m_out := m_out) (m_wide := m_wide) (m_gathered := m_gathered) (m_sets := m_sets) (m_ranges := m_ranges) (m_nodes := m_nodes) (m_at := m_at) (m_flags := m_flags) (m_fault := m_fault) (m_place := m_place) (m_numbered := m_numbered) (m_depth := m_depth) (m_value := m_value) (m_isNot := m_isNot) (m_least0 := m_least0) (m_most0 := m_most0) (m_slot := m_slot) (m_work := m_work) (m_got := m_got) (m_rowMany := m_rowMany) (m_charAt := m_charAt) (m_charWide := m_charWide) (m_trail := m_trail) (m_isMatch := m_isMatch) (m_matchGroups := m_matchGroups) (m_allFrom := m_allFrom) (m_allBefore := m_allBefore) (m_founds := m_founds) (m_pieces := m_pieces) (m_writtenMany := m_writtenMany) (m_templateWide := m_templateWide) (m_tooMuch := m_tooMuch) (K := K) (O := O) (Fi := Fi) (Be := Be) (Z := Z) (k := 3) (w := 0) (zs := 1) h80 h94 h95 h96 h97 h100 (by omega) (by omega)) (fun oc G2 h => by rcases h with ⟨h, _⟩ <;> exact ⟨_, h⟩) (by omega) m_MO_node ml_MO_269 im_MO_node se_MO_node c_MO h80.2.2 (Nat.le_of_ble_eq_true rfl) d_MO_readPart_173 rfl ?_
        intro v G480 hq
        rcases hq with ⟨hv, hfk, hlk, hsk, hN80, hN94, hN95, hN96, hN97, hN100⟩
        cases hv
        have h84 := hfk.get h84 (by decide)
        have h87 := hfk.get h87 (by decide)
        have h88 := hfk.get h88 (by decide)
        have h93 := hfk.get h93 (by decide)
        have h81 := hfk.get h81 (by decide)
        have h82 := hfk.get h82 (by decide)
        have h91 := hfk.get h91 (by decide)
        have h92 := hfk.get h92 (by decide)
        have h110 := hfk.get h110 (by decide)
        have h111 := hfk.get h111 (by decide)
        have h98 := hfk.get h98 (by decide)
        have h99 := hfk.get h99 (by decide)
        have h101 := hfk.get h101 (by decide)
        have h90 := hfk.get h90 (by decide)
        have h89 := hfk.get h89 (by decide)
        have h105 := hfk.get h105 (by decide)
        have h106 := hfk.get h106 (by decide)
        have h107 := hfk.get h107 (by decide)
        have h108 := hfk.get h108 (by decide)
        have h109 := hfk.get h109 (by decide)
        have h102 := hfk.get h102 (by decide)
        have h103 := hfk.get h103 (by decide)
        have h104 := hfk.get h104 (by decide)
        have hfr := hfr.tr hfk (by decide)
        have hlen := hlk.trans hlen
        have hsl := hsk.trans hsl
        have h80 := hN80
        have h94 := hN94
        have h95 := hN95
        have h96 := hN96
        have h97 := hN97
        have h100 := hN100
        change ab_W _ _ _ G480 176 [some (vR 80), some (vz (tpk A_tape m_taped m_at)), none, none] [vz m_nodes, vR 80] _
        have ptrI_0 : trI o G480 0 (m_nodes + 1) m_sets (m_depth + 1) m_nodes 0 6 ((a1_, b1_, c1_, d1_, e1_) :: t1_) rp ls 1 0 0 := ⟨(zu K m_nodes 3), (zu O m_nodes 0), (zu Fi m_nodes (-1)), (zu Be m_nodes (-1)), Le, Mo, (zu Z m_nodes 1), LZ, SM, SA, QF, QL, AF, AL, SD, OA, OF, ON, h94, h95, h96, h97, h98, h99, h100, h101, h90, h89, h105, h106, h107, h108, h109, h102, h103, h104, (rgs_zu jk (by omega)), (rgs_zu jo (by omega)), (rgs_zu jfi (by omega)), (rgs_zu jbe (by omega)), jle, jmo, (rgs_zu jz (by omega)), jlz, jsm, jsa, jqf, jql, jaf, jal, jsd, joa, jof, jon, (rtj_leaf jt (by omega) (Or.inr (Or.inr (Or.inr ⟨rfl, rfl, by omega, by omega⟩)))), (by omega), (fun h => absurd h (by decide)), (fun h => absurd h (by decide)), (fun h => absurd h (by decide)), (fun h => absurd h (by decide)), (fun _ => by rw [zu_self]; decide), (fun h => absurd h (by decide)), jss⟩
        refine zz_iconst d_MO_readPart_176 ?_
        refine ab_callV (d' := d - 1) (as := [vz m_nodes, vz 1]) (st := []) (r := _) (z1_MO_part (o := o) (m_thrown := m_thrown) (m_taped := m_taped) (m_length := m_length) (m_out := m_out) (m_wide := m_wide) (m_gathered := m_gathered) (m_sets := m_sets) (m_ranges := m_ranges) (m_nodes := (m_nodes + 1)) (m_at := m_at) (m_flags := m_flags) (m_fault := m_fault) (m_place := m_place) (m_numbered := m_numbered) (m_depth := m_depth) (m_value := m_value) (m_isNot := m_isNot) (m_least0 := m_least0) (m_most0 := m_most0) (m_slot := m_slot) (m_work := m_work) (m_got := m_got) (m_rowMany := m_rowMany) (m_charAt := m_charAt) (m_charWide := m_charWide) (m_trail := m_trail) (m_isMatch := m_isMatch) (m_matchGroups := m_matchGroups) (m_allFrom := m_allFrom) (m_allBefore := m_allBefore) (m_founds := m_founds) (m_pieces := m_pieces) (m_writtenMany := m_writtenMany) (m_templateWide := m_templateWide) (m_tooMuch := m_tooMuch) (x := m_nodes) (dh := 0) (rp := rp) (ls := ls) (dz := 1) (a1_ := a1_) (b1_ := b1_) (c1_ := c1_) (d1_ := d1_) (e1_ := e1_) (nu9 := 0) (fo9 := 0) (t1_ := t1_) h80 ptrI_0 (by omega) (by omega) (by omega) (by omega)) (fun oc G2 h => by rcases h with ⟨h, _⟩ <;> exact ⟨_, h⟩) (by omega) m_MO_part ml_MO_375 im_MO_part se_MO_part c_MO h80.2.2 (Nat.le_of_ble_eq_true rfl) d_MO_readPart_177 rfl ?_
        intro v G481 hq
        rcases hq with ⟨hv, hfk, hlk, hsk, pNtrI_0⟩
        cases hv
        have h80 := hfk.get h80 (by decide)
        have h84 := hfk.get h84 (by decide)
        have h87 := hfk.get h87 (by decide)
        have h88 := hfk.get h88 (by decide)
        have h93 := hfk.get h93 (by decide)
        have h81 := hfk.get h81 (by decide)
        have h82 := hfk.get h82 (by decide)
        have h91 := hfk.get h91 (by decide)
        have h92 := hfk.get h92 (by decide)
        have h110 := hfk.get h110 (by decide)
        have h111 := hfk.get h111 (by decide)
        have ptrI_0 := pNtrI_0
        have hfr := hfr.tr hfk (by decide)
        have hlen := hlk.trans hlen
        have hsl := hsk.trans hsl
        change ab_W _ _ _ G481 180 [some (vR 80), some (vz (tpk A_tape m_taped m_at)), none, none] [] _
        refine ab_aload_n d_MO_readPart_180 rfl ?_
        refine ab_dup d_MO_readPart_181 rfl ?_
        refine ab_getf (fs := mof m_thrown m_taped m_length m_out m_wide m_gathered m_sets m_ranges (m_nodes + 1) m_at m_flags m_fault m_place m_numbered m_depth m_value m_isNot m_least0 m_most0 m_slot m_work m_got m_rowMany m_charAt m_charWide m_trail m_isMatch m_matchGroups m_allFrom m_allBefore m_founds m_pieces m_writtenMany m_templateWide m_tooMuch) f_MO_279 d_MO_readPart_182 h80.2.2 rfl ?_
        refine zz_iconst d_MO_readPart_185 ?_
        refine zz_iadd d_MO_readPart_186 ?_
        refine ab_putf (fs := mof m_thrown m_taped m_length m_out m_wide m_gathered m_sets m_ranges (m_nodes + 1) m_at m_flags m_fault m_place m_numbered m_depth m_value m_isNot m_least0 m_most0 m_slot m_work m_got m_rowMany m_charAt m_charWide m_trail m_isMatch m_matchGroups m_allFrom m_allBefore m_founds m_pieces m_writtenMany m_templateWide m_tooMuch) f_MO_279 (Or.inl rfl) d_MO_readPart_187 h80.2.2 (Nat.le_of_ble_eq_true rfl) (fun _ => ⟨rfl, rfl⟩) (h80.2.1 (by decide)) ?_
        obtain ⟨G482, eG482⟩ : ∃ z : ab_G, z = List.set G481 80 (ab_ob 12 (mof m_thrown m_taped m_length m_out m_wide m_gathered m_sets m_ranges (m_nodes + 1) (m_at + 1) m_flags m_fault m_place m_numbered m_depth m_value m_isNot m_least0 m_most0 m_slot m_work m_got m_rowMany m_charAt m_charWide m_trail m_isMatch m_matchGroups m_allFrom m_allBefore m_founds m_pieces m_writtenMany m_templateWide m_tooMuch)) := ⟨_, rfl⟩
        have h84 := h84.keep h80 eG482 (by decide)
        have h87 := h87.keep h80 eG482 (by decide)
        have h88 := h88.keep h80 eG482 (by decide)
        have h93 := h93.keep h80 eG482 (by decide)
        have h81 := h81.keep h80 eG482 (by decide)
        have h82 := h82.keep h80 eG482 (by decide)
        have h91 := h91.keep h80 eG482 (by decide)
        have h92 := h92.keep h80 eG482 (by decide)
        have h110 := h110.keep h80 eG482 (by decide)
        have h111 := h111.keep h80 eG482 (by decide)
        have hst := (fx.rf (o := o) (S := [280]) (G := G481)).wr h80 eG482 (List.mem_singleton.mpr rfl)
        have ptrI_0 := trI.fr hst ptrI_0 (by decide) (by decide) (by decide) (by decide) (by decide) (by decide) (by decide) (by decide) (by decide) (by decide) (by decide) (by decide) (by decide) (by decide) (by decide) (by decide) (by decide) (by decide)
        have hlen := (z_len eG482).trans hlen
        have hsl := (z_sl h80 eG482 rfl).trans hsl
        have hfr := hfr.wr h80 eG482 (by decide)
        have h80 := h80.kept eG482
        change ab_W _ _ _ (List.set G481 80 (ab_ob 12 (mof m_thrown m_taped m_length m_out m_wide m_gathered m_sets m_ranges (m_nodes + 1) (m_at + 1) m_flags m_fault m_place m_numbered m_depth m_value m_isNot m_least0 m_most0 m_slot m_work m_got m_rowMany m_charAt m_charWide m_trail m_isMatch m_matchGroups m_allFrom m_allBefore m_founds m_pieces m_writtenMany m_templateWide m_tooMuch))) 190 [some (vR 80), some (vz (tpk A_tape m_taped m_at)), none, none] [] _
        rw [← eG482]
        refine ab_goto (tgt := 312) d_MO_readPart_190 (by decide) ?_
        refine ab_vret rfl d_MO_readPart_312 ?_
        rw [hQ]; exact (Or.inl ⟨_, _, _, _, _, _, _, _, _, _, _, _, _, _, _, _, _, _, _, _, _, _, ((a1_, b1_, c1_, d1_, (e1_ + 1)) :: t1_), 1, 1, na, nl, rfl, hfr, hlen, hsl, h80, h87, h88, h93, h91, h92, h110, h111, ptrI_0, (by omega), (by first | exact jmk | exact rgs_w jmk (by omega)), (by first | exact jrl | exact rgs_w jrl (by omega)), (by first | exact jrh | exact rgs_w jrh (by omega)), (by first | exact jns | exact rgs_w jns (by omega)), (by first | exact jnm | exact rgs_w jnm (by omega)), (by omega), (by exact jnj), (by exact stp_leaf (Or.inr (Or.inr (Or.inr (Or.inr (Or.inl ⟨by omega, by omega, rfl⟩))))))⟩)
      · replace c479 : nzq v476 0 := c479
        refine zz_iconst d_MO_readPart_167 ?_
        refine ab_goto (tgt := 172) d_MO_readPart_168 (by decide) ?_
        refine zz_lconst d_MO_readPart_172 ?_
        change ab_W _ _ _ G 173 [some (vR 80), some (vz (tpk A_tape m_taped m_at)), none, none] [vj 1, vz 4, vz 3, vR 80, vR 80] _
        refine ab_callV (d' := d - 1) (as := [vz 3, vz 4, vj 1]) (st := [vR 80]) (r := _) (z_MO_node (o := o) (m_thrown := m_thrown) (m_taped := m_taped) (m_length := m_length) (m_out := m_out) (m_wide := m_wide) (m_gathered := m_gathered) (m_sets := m_sets) (m_ranges := m_ranges) (m_nodes := m_nodes) (m_at := m_at) (m_flags := m_flags) (m_fault := m_fault) (m_place := m_place) (m_numbered := m_numbered) (m_depth := m_depth) (m_value := m_value) (m_isNot := m_isNot) (m_least0 := m_least0) (m_most0 := m_most0) (m_slot := m_slot) (m_work := m_work) (m_got := m_got) (m_rowMany := m_rowMany) (m_charAt := m_charAt) (m_charWide := m_charWide) (m_trail := m_trail) (m_isMatch := m_isMatch) (m_matchGroups := m_matchGroups) (m_allFrom := m_allFrom) (m_allBefore := m_allBefore) (m_founds := m_founds) (m_pieces := m_pieces) (m_writtenMany := m_writtenMany) (m_templateWide := m_templateWide) (m_tooMuch := m_tooMuch) (K := K) (O := O) (Fi := Fi) (Be := Be) (Z := Z) (k := 3) (w := 4) (zs := 1) h80 h94 h95 h96 h97 h100 (by omega) (by omega)) (fun oc G2 h => by rcases h with ⟨h, _⟩ <;> exact ⟨_, h⟩) (by omega) m_MO_node ml_MO_269 im_MO_node se_MO_node c_MO h80.2.2 (Nat.le_of_ble_eq_true rfl) d_MO_readPart_173 rfl ?_
        intro v G483 hq
        rcases hq with ⟨hv, hfk, hlk, hsk, hN80, hN94, hN95, hN96, hN97, hN100⟩
        cases hv
        have h84 := hfk.get h84 (by decide)
        have h87 := hfk.get h87 (by decide)
        have h88 := hfk.get h88 (by decide)
        have h93 := hfk.get h93 (by decide)
        have h81 := hfk.get h81 (by decide)
        have h82 := hfk.get h82 (by decide)
        have h91 := hfk.get h91 (by decide)
        have h92 := hfk.get h92 (by decide)
        have h110 := hfk.get h110 (by decide)
        have h111 := hfk.get h111 (by decide)
        have h98 := hfk.get h98 (by decide)
        have h99 := hfk.get h99 (by decide)
        have h101 := hfk.get h101 (by decide)
        have h90 := hfk.get h90 (by decide)
        have h89 := hfk.get h89 (by decide)
        have h105 := hfk.get h105 (by decide)
        have h106 := hfk.get h106 (by decide)
        have h107 := hfk.get h107 (by decide)
        have h108 := hfk.get h108 (by decide)
        have h109 := hfk.get h109 (by decide)
        have h102 := hfk.get h102 (by decide)
        have h103 := hfk.get h103 (by decide)
        have h104 := hfk.get h104 (by decide)
        have hfr := hfr.tr hfk (by decide)
        have hlen := hlk.trans hlen
        have hsl := hsk.trans hsl
        have h80 := hN80
        have h94 := hN94
        have h95 := hN95
        have h96 := hN96
        have h97 := hN97
        have h100 := hN100
        change ab_W _ _ _ G483 176 [some (vR 80), some (vz (tpk A_tape m_taped m_at)), none, none] [vz m_nodes, vR 80] _
        have ptrI_0 : trI o G483 0 (m_nodes + 1) m_sets (m_depth + 1) m_nodes 0 6 ((a1_, b1_, c1_, d1_, e1_) :: t1_) rp ls 1 0 0 := ⟨(zu K m_nodes 3), (zu O m_nodes 4), (zu Fi m_nodes (-1)), (zu Be m_nodes (-1)), Le, Mo, (zu Z m_nodes 1), LZ, SM, SA, QF, QL, AF, AL, SD, OA, OF, ON, h94, h95, h96, h97, h98, h99, h100, h101, h90, h89, h105, h106, h107, h108, h109, h102, h103, h104, (rgs_zu jk (by omega)), (rgs_zu jo (by omega)), (rgs_zu jfi (by omega)), (rgs_zu jbe (by omega)), jle, jmo, (rgs_zu jz (by omega)), jlz, jsm, jsa, jqf, jql, jaf, jal, jsd, joa, jof, jon, (rtj_leaf jt (by omega) (Or.inr (Or.inr (Or.inr ⟨rfl, rfl, by omega, by omega⟩)))), (by omega), (fun h => absurd h (by decide)), (fun h => absurd h (by decide)), (fun h => absurd h (by decide)), (fun h => absurd h (by decide)), (fun _ => by rw [zu_self]; decide), (fun h => absurd h (by decide)), jss⟩
        refine zz_iconst d_MO_readPart_176 ?_
        refine ab_callV (d' := d - 1) (as := [vz m_nodes, vz 1]) (st := []) (r := _) (z1_MO_part (o := o) (m_thrown := m_thrown) (m_taped := m_taped) (m_length := m_length) (m_out := m_out) (m_wide := m_wide) (m_gathered := m_gathered) (m_sets := m_sets) (m_ranges := m_ranges) (m_nodes := (m_nodes + 1)) (m_at := m_at) (m_flags := m_flags) (m_fault := m_fault) (m_place := m_place) (m_numbered := m_numbered) (m_depth := m_depth) (m_value := m_value) (m_isNot := m_isNot) (m_least0 := m_least0) (m_most0 := m_most0) (m_slot := m_slot) (m_work := m_work) (m_got := m_got) (m_rowMany := m_rowMany) (m_charAt := m_charAt) (m_charWide := m_charWide) (m_trail := m_trail) (m_isMatch := m_isMatch) (m_matchGroups := m_matchGroups) (m_allFrom := m_allFrom) (m_allBefore := m_allBefore) (m_founds := m_founds) (m_pieces := m_pieces) (m_writtenMany := m_writtenMany) (m_templateWide := m_templateWide) (m_tooMuch := m_tooMuch) (x := m_nodes) (dh := 0) (rp := rp) (ls := ls) (dz := 1) (a1_ := a1_) (b1_ := b1_) (c1_ := c1_) (d1_ := d1_) (e1_ := e1_) (nu9 := 0) (fo9 := 0) (t1_ := t1_) h80 ptrI_0 (by omega) (by omega) (by omega) (by omega)) (fun oc G2 h => by rcases h with ⟨h, _⟩ <;> exact ⟨_, h⟩) (by omega) m_MO_part ml_MO_375 im_MO_part se_MO_part c_MO h80.2.2 (Nat.le_of_ble_eq_true rfl) d_MO_readPart_177 rfl ?_
        intro v G484 hq
        rcases hq with ⟨hv, hfk, hlk, hsk, pNtrI_0⟩
        cases hv
        have h80 := hfk.get h80 (by decide)
        have h84 := hfk.get h84 (by decide)
        have h87 := hfk.get h87 (by decide)
        have h88 := hfk.get h88 (by decide)
        have h93 := hfk.get h93 (by decide)
        have h81 := hfk.get h81 (by decide)
        have h82 := hfk.get h82 (by decide)
        have h91 := hfk.get h91 (by decide)
        have h92 := hfk.get h92 (by decide)
        have h110 := hfk.get h110 (by decide)
        have h111 := hfk.get h111 (by decide)
        have ptrI_0 := pNtrI_0
        have hfr := hfr.tr hfk (by decide)
        have hlen := hlk.trans hlen
        have hsl := hsk.trans hsl
        change ab_W _ _ _ G484 180 [some (vR 80), some (vz (tpk A_tape m_taped m_at)), none, none] [] _
        refine ab_aload_n d_MO_readPart_180 rfl ?_
        refine ab_dup d_MO_readPart_181 rfl ?_
        refine ab_getf (fs := mof m_thrown m_taped m_length m_out m_wide m_gathered m_sets m_ranges (m_nodes + 1) m_at m_flags m_fault m_place m_numbered m_depth m_value m_isNot m_least0 m_most0 m_slot m_work m_got m_rowMany m_charAt m_charWide m_trail m_isMatch m_matchGroups m_allFrom m_allBefore m_founds m_pieces m_writtenMany m_templateWide m_tooMuch) f_MO_279 d_MO_readPart_182 h80.2.2 rfl ?_
        refine zz_iconst d_MO_readPart_185 ?_
        refine zz_iadd d_MO_readPart_186 ?_
        refine ab_putf (fs := mof m_thrown m_taped m_length m_out m_wide m_gathered m_sets m_ranges (m_nodes + 1) m_at m_flags m_fault m_place m_numbered m_depth m_value m_isNot m_least0 m_most0 m_slot m_work m_got m_rowMany m_charAt m_charWide m_trail m_isMatch m_matchGroups m_allFrom m_allBefore m_founds m_pieces m_writtenMany m_templateWide m_tooMuch) f_MO_279 (Or.inl rfl) d_MO_readPart_187 h80.2.2 (Nat.le_of_ble_eq_true rfl) (fun _ => ⟨rfl, rfl⟩) (h80.2.1 (by decide)) ?_
        obtain ⟨G485, eG485⟩ : ∃ z : ab_G, z = List.set G484 80 (ab_ob 12 (mof m_thrown m_taped m_length m_out m_wide m_gathered m_sets m_ranges (m_nodes + 1) (m_at + 1) m_flags m_fault m_place m_numbered m_depth m_value m_isNot m_least0 m_most0 m_slot m_work m_got m_rowMany m_charAt m_charWide m_trail m_isMatch m_matchGroups m_allFrom m_allBefore m_founds m_pieces m_writtenMany m_templateWide m_tooMuch)) := ⟨_, rfl⟩
        have h84 := h84.keep h80 eG485 (by decide)
        have h87 := h87.keep h80 eG485 (by decide)
        have h88 := h88.keep h80 eG485 (by decide)
        have h93 := h93.keep h80 eG485 (by decide)
        have h81 := h81.keep h80 eG485 (by decide)
        have h82 := h82.keep h80 eG485 (by decide)
        have h91 := h91.keep h80 eG485 (by decide)
        have h92 := h92.keep h80 eG485 (by decide)
        have h110 := h110.keep h80 eG485 (by decide)
        have h111 := h111.keep h80 eG485 (by decide)
        have hst := (fx.rf (o := o) (S := [280]) (G := G484)).wr h80 eG485 (List.mem_singleton.mpr rfl)
        have ptrI_0 := trI.fr hst ptrI_0 (by decide) (by decide) (by decide) (by decide) (by decide) (by decide) (by decide) (by decide) (by decide) (by decide) (by decide) (by decide) (by decide) (by decide) (by decide) (by decide) (by decide) (by decide)
        have hlen := (z_len eG485).trans hlen
        have hsl := (z_sl h80 eG485 rfl).trans hsl
        have hfr := hfr.wr h80 eG485 (by decide)
        have h80 := h80.kept eG485
        change ab_W _ _ _ (List.set G484 80 (ab_ob 12 (mof m_thrown m_taped m_length m_out m_wide m_gathered m_sets m_ranges (m_nodes + 1) (m_at + 1) m_flags m_fault m_place m_numbered m_depth m_value m_isNot m_least0 m_most0 m_slot m_work m_got m_rowMany m_charAt m_charWide m_trail m_isMatch m_matchGroups m_allFrom m_allBefore m_founds m_pieces m_writtenMany m_templateWide m_tooMuch))) 190 [some (vR 80), some (vz (tpk A_tape m_taped m_at)), none, none] [] _
        rw [← eG485]
        refine ab_goto (tgt := 312) d_MO_readPart_190 (by decide) ?_
        refine ab_vret rfl d_MO_readPart_312 ?_
        rw [hQ]; exact (Or.inl ⟨_, _, _, _, _, _, _, _, _, _, _, _, _, _, _, _, _, _, _, _, _, _, ((a1_, b1_, c1_, d1_, (e1_ + 1)) :: t1_), 1, 1, na, nl, rfl, hfr, hlen, hsl, h80, h87, h88, h93, h91, h92, h110, h111, ptrI_0, (by omega), (by first | exact jmk | exact rgs_w jmk (by omega)), (by first | exact jrl | exact rgs_w jrl (by omega)), (by first | exact jrh | exact rgs_w jrh (by omega)), (by first | exact jns | exact rgs_w jns (by omega)), (by first | exact jnm | exact rgs_w jnm (by omega)), (by omega), (by exact jnj), (by exact stp_leaf (Or.inr (Or.inr (Or.inr (Or.inr (Or.inl ⟨by omega, by omega, rfl⟩))))))⟩)
    replace c474 : nzq (tpk A_tape m_taped m_at) 94 := c474
    by_cases c486 : (tpk A_tape m_taped m_at) = 124
    · refine zz_lookup (off := 132) (tgt := 139) d_MO_readPart_7 (by decide) (by omega) (by rw [c486]; decide) (by decide) ?_
      refine ab_aload_n d_MO_readPart_139 rfl ?_
      refine ab_callV (d' := d - 1) (as := []) (st := []) (r := _) (z_MO_closeRow (o := o) (m_thrown := m_thrown) (m_taped := m_taped) (m_length := m_length) (m_out := m_out) (m_wide := m_wide) (m_gathered := m_gathered) (m_sets := m_sets) (m_ranges := m_ranges) (m_nodes := m_nodes) (m_at := m_at) (m_flags := m_flags) (m_fault := m_fault) (m_place := m_place) (m_numbered := m_numbered) (m_depth := m_depth) (m_value := m_value) (m_isNot := m_isNot) (m_least0 := m_least0) (m_most0 := m_most0) (m_slot := m_slot) (m_work := m_work) (m_got := m_got) (m_rowMany := m_rowMany) (m_charAt := m_charAt) (m_charWide := m_charWide) (m_trail := m_trail) (m_isMatch := m_isMatch) (m_matchGroups := m_matchGroups) (m_allFrom := m_allFrom) (m_allBefore := m_allBefore) (m_founds := m_founds) (m_pieces := m_pieces) (m_writtenMany := m_writtenMany) (m_templateWide := m_templateWide) (m_tooMuch := m_tooMuch) (re_ := 0) (rp := rp) (ls := ls) (a1_ := a1_) (b1_ := b1_) (c1_ := c1_) (d1_ := d1_) (e1_ := e1_) (nu9 := 0) (fo9 := 0) (t1_ := t1_) h80 ptrI_0 (by omega) (by omega) (by omega) (by omega)) (fun oc G2 h => by rcases h with ⟨h, _⟩ <;> exact ⟨_, h⟩) (by omega) m_MO_closeRow ml_MO_292 im_MO_closeRow se_MO_closeRow c_MO h80.2.2 (Nat.le_of_ble_eq_true rfl) d_MO_readPart_140 rfl ?_
      intro v G487 hq
      rcases hq with ⟨hv, hfk, hlk, hsk, hN80, pNtrI_0⟩
      cases hv
      have h84 := hfk.get h84 (by decide)
      have h87 := hfk.get h87 (by decide)
      have h88 := hfk.get h88 (by decide)
      have h93 := hfk.get h93 (by decide)
      have h81 := hfk.get h81 (by decide)
      have h82 := hfk.get h82 (by decide)
      have h91 := hfk.get h91 (by decide)
      have h92 := hfk.get h92 (by decide)
      have h110 := hfk.get h110 (by decide)
      have h111 := hfk.get h111 (by decide)
      have ptrI_0 := pNtrI_0
      have hfr := hfr.tr hfk (by decide)
      have hlen := hlk.trans hlen
      have hsl := hsk.trans hsl
      have h80 := hN80
      change ab_W _ _ _ G487 143 [some (vR 80), some (vz (tpk A_tape m_taped m_at)), none, none] [] _
      obtain ⟨K, O, Fi, Be, Le, Mo, Z, LZ, SM, SA, QF, QL, AF, AL, SD, OA, OF, ON, h94, h95, h96, h97, h98, h99, h100, h101, h90, h89, h105, h106, h107, h108, h109, h102, h103, h104, jk, jo, jfi, jbe, jle, jmo, jz, jlz, jsm, jsa, jqf, jql, jaf, jal, jsd, joa, jof, jon, jt, cnd, cre, crs, crz, ck5, ck6, ck7, jss⟩ := ptrI_0
      have ptrI_0 : trI o G487 0 (m_nodes + 1) m_sets (m_depth + 1) (-1) 0 0 ((a1_, b1_, c1_, (d1_ + e1_ + 1), 0) :: t1_) 0 0 0 0 0 := ⟨K, O, Fi, Be, Le, Mo, Z, LZ, SM, SA, QF, QL, AF, AL, SD, OA, OF, ON, h94, h95, h96, h97, h98, h99, h100, h101, h90, h89, h105, h106, h107, h108, h109, h102, h103, h104, jk, jo, jfi, jbe, jle, jmo, jz, jlz, jsm, jsa, jqf, jql, jaf, jal, jsd, joa, jof, jon, jt, (by omega), (fun h => absurd h (by decide)), (fun h => absurd h (by decide)), (fun h => absurd h (by decide)), (fun h => absurd h (by decide)), (fun h => absurd h (by decide)), (fun h => absurd h (by decide)), jss⟩
      refine ab_aload_n d_MO_readPart_143 rfl ?_
      refine ab_dup d_MO_readPart_144 rfl ?_
      refine ab_getf (fs := mof m_thrown m_taped m_length m_out m_wide m_gathered m_sets m_ranges (m_nodes + 1) m_at m_flags m_fault m_place m_numbered m_depth m_value m_isNot m_least0 m_most0 m_slot m_work m_got m_rowMany m_charAt m_charWide m_trail m_isMatch m_matchGroups m_allFrom m_allBefore m_founds m_pieces m_writtenMany m_templateWide m_tooMuch) f_MO_279 d_MO_readPart_145 h80.2.2 rfl ?_
      refine zz_iconst d_MO_readPart_148 ?_
      refine zz_iadd d_MO_readPart_149 ?_
      refine ab_putf (fs := mof m_thrown m_taped m_length m_out m_wide m_gathered m_sets m_ranges (m_nodes + 1) m_at m_flags m_fault m_place m_numbered m_depth m_value m_isNot m_least0 m_most0 m_slot m_work m_got m_rowMany m_charAt m_charWide m_trail m_isMatch m_matchGroups m_allFrom m_allBefore m_founds m_pieces m_writtenMany m_templateWide m_tooMuch) f_MO_279 (Or.inl rfl) d_MO_readPart_150 h80.2.2 (Nat.le_of_ble_eq_true rfl) (fun _ => ⟨rfl, rfl⟩) (h80.2.1 (by decide)) ?_
      obtain ⟨G488, eG488⟩ : ∃ z : ab_G, z = List.set G487 80 (ab_ob 12 (mof m_thrown m_taped m_length m_out m_wide m_gathered m_sets m_ranges (m_nodes + 1) (m_at + 1) m_flags m_fault m_place m_numbered m_depth m_value m_isNot m_least0 m_most0 m_slot m_work m_got m_rowMany m_charAt m_charWide m_trail m_isMatch m_matchGroups m_allFrom m_allBefore m_founds m_pieces m_writtenMany m_templateWide m_tooMuch)) := ⟨_, rfl⟩
      have h84 := h84.keep h80 eG488 (by decide)
      have h87 := h87.keep h80 eG488 (by decide)
      have h88 := h88.keep h80 eG488 (by decide)
      have h93 := h93.keep h80 eG488 (by decide)
      have h81 := h81.keep h80 eG488 (by decide)
      have h82 := h82.keep h80 eG488 (by decide)
      have h91 := h91.keep h80 eG488 (by decide)
      have h92 := h92.keep h80 eG488 (by decide)
      have h110 := h110.keep h80 eG488 (by decide)
      have h111 := h111.keep h80 eG488 (by decide)
      have hst := (fx.rf (o := o) (S := [280]) (G := G487)).wr h80 eG488 (List.mem_singleton.mpr rfl)
      have ptrI_0 := trI.fr hst ptrI_0 (by decide) (by decide) (by decide) (by decide) (by decide) (by decide) (by decide) (by decide) (by decide) (by decide) (by decide) (by decide) (by decide) (by decide) (by decide) (by decide) (by decide) (by decide)
      have hlen := (z_len eG488).trans hlen
      have hsl := (z_sl h80 eG488 rfl).trans hsl
      have hfr := hfr.wr h80 eG488 (by decide)
      have h80 := h80.kept eG488
      change ab_W _ _ _ (List.set G487 80 (ab_ob 12 (mof m_thrown m_taped m_length m_out m_wide m_gathered m_sets m_ranges (m_nodes + 1) (m_at + 1) m_flags m_fault m_place m_numbered m_depth m_value m_isNot m_least0 m_most0 m_slot m_work m_got m_rowMany m_charAt m_charWide m_trail m_isMatch m_matchGroups m_allFrom m_allBefore m_founds m_pieces m_writtenMany m_templateWide m_tooMuch))) 153 [some (vR 80), some (vz (tpk A_tape m_taped m_at)), none, none] [] _
      rw [← eG488]
      refine ab_goto (tgt := 312) d_MO_readPart_153 (by decide) ?_
      refine ab_vret rfl d_MO_readPart_312 ?_
      rw [hQ]; exact (Or.inl ⟨_, _, _, _, _, _, _, _, _, _, _, _, _, _, _, _, _, _, _, _, _, _, ((a1_, b1_, c1_, (d1_ + e1_ + 1), 0) :: t1_), 0, 0, na, nl, rfl, hfr, hlen, hsl, h80, h87, h88, h93, h91, h92, h110, h111, ptrI_0, (by omega), (by first | exact jmk | exact rgs_w jmk (by omega)), (by first | exact jrl | exact rgs_w jrl (by omega)), (by first | exact jrh | exact rgs_w jrh (by omega)), (by first | exact jns | exact rgs_w jns (by omega)), (by first | exact jnm | exact rgs_w jnm (by omega)), (by omega), (by exact jnj), (by exact sb_bar (by omega))⟩)
    replace c486 : nzq (tpk A_tape m_taped m_at) 124 := c486
    refine zz_lookup (off := 261) (tgt := 268) d_MO_readPart_7 (by decide) (by omega) (by simp only [Op.lookupswitch.offset]; rw [if_neg (fun h => c5 h.symm)]; rw [if_neg (fun h => c17 h.symm)]; rw [if_neg (fun h => c87 h.symm)]; rw [if_neg (fun h => c157 h.symm)]; rw [if_neg (fun h => c231 h.symm)]; rw [if_neg (fun h => c305 h.symm)]; rw [if_neg (fun h => c328 h.symm)]; rw [if_neg (fun h => c402 h.symm)]; rw [if_neg (fun h => c438 h.symm)]; rw [if_neg (fun h => c474 h.symm)]; rw [if_neg (fun h => c486 h.symm)]) (by decide) ?_
    refine ab_iload_n d_MO_readPart_268 rfl ?_
    refine zz_bipush d_MO_readPart_269 (by decide) ?_
    refine zz_icmp_ne (tgt := 281) d_MO_readPart_271 (by decide) (by omega) (by decide) (fun c490 => ?_) (fun c490 => ?_)
    · replace c490 : nzq (tpk A_tape m_taped m_at) 123 := c490
      refine zz_iconst d_MO_readPart_281 ?_
      refine ab_istore_n d_MO_readPart_282 (Nat.le_of_ble_eq_true rfl) (Nat.le_of_ble_eq_true rfl) rfl ?_
      change ab_W _ _ _ G 283 [some (vR 80), some (vz (tpk A_tape m_taped m_at)), some (vz (-1)), none] [] _
      refine ab_iload_n d_MO_readPart_283 rfl ?_
      refine zz_if_le (tgt := 295) d_MO_readPart_284 (by decide) (by decide) (fun c491 => ?_) (fun c491 => absurd c491 (by decide))
      refine ab_aload_n d_MO_readPart_295 rfl ?_
      refine ab_callV (d' := d - 1) (as := []) (st := []) (r := _) (z_MO_plain (o := o) (m_thrown := m_thrown) (m_taped := m_taped) (m_length := m_length) (m_out := m_out) (m_wide := m_wide) (m_gathered := m_gathered) (m_sets := m_sets) (m_ranges := m_ranges) (m_nodes := m_nodes) (m_at := m_at) (m_flags := m_flags) (m_fault := m_fault) (m_place := m_place) (m_numbered := m_numbered) (m_depth := m_depth) (m_value := m_value) (m_isNot := m_isNot) (m_least0 := m_least0) (m_most0 := m_most0) (m_slot := m_slot) (m_work := m_work) (m_got := m_got) (m_rowMany := m_rowMany) (m_charAt := m_charAt) (m_charWide := m_charWide) (m_trail := m_trail) (m_isMatch := m_isMatch) (m_matchGroups := m_matchGroups) (m_allFrom := m_allFrom) (m_allBefore := m_allBefore) (m_founds := m_founds) (m_pieces := m_pieces) (m_writtenMany := m_writtenMany) (m_templateWide := m_templateWide) (m_tooMuch := m_tooMuch) (A_tape := A_tape) h80 h84 (by omega) (by omega) jtp (by omega) (by omega) (by omega)) (fun oc G2 h => by rcases h with ⟨_, _, _, h, _⟩ | ⟨_, _, _, h, _⟩ <;> exact ⟨_, h⟩) (by omega) m_MO_plain ml_MO_348 im_MO_plain se_MO_plain c_MO h80.2.2 (Nat.le_of_ble_eq_true rfl) d_MO_readPart_296 rfl ?_
      intro v G492 hq
      rcases hq with ⟨w2493, f2494, p2495, hv, hfk, hlk, hsk, hN80, hq496, hq497, hq498⟩ | ⟨v499, w2500, a2501, hv, hfk, hlk, hsk, hN80, hq502, hq503, hq504⟩
      · cases hv
        have h84 := hfk.get h84 (by decide)
        have h87 := hfk.get h87 (by decide)
        have h88 := hfk.get h88 (by decide)
        have h93 := hfk.get h93 (by decide)
        have h81 := hfk.get h81 (by decide)
        have h82 := hfk.get h82 (by decide)
        have h91 := hfk.get h91 (by decide)
        have h92 := hfk.get h92 (by decide)
        have h110 := hfk.get h110 (by decide)
        have h111 := hfk.get h111 (by decide)
        have ptrI_0 := trI.fr hfk ptrI_0 (by decide) (by decide) (by decide) (by decide) (by decide) (by decide) (by decide) (by decide) (by decide) (by decide) (by decide) (by decide) (by decide) (by decide) (by decide) (by decide) (by decide) (by decide)
        have hfr := hfr.tr hfk (by decide)
        have hlen := hlk.trans hlen
        have hsl := hsk.trans hsl
        have h80 := hN80
        change ab_W _ _ _ G492 299 [some (vR 80), some (vz (tpk A_tape m_taped m_at)), some (vz (-1)), none] [vz (-1)] _
        refine ab_istore_n d_MO_readPart_299 (Nat.le_of_ble_eq_true rfl) (Nat.le_of_ble_eq_true rfl) rfl ?_
        change ab_W _ _ _ G492 300 [some (vR 80), some (vz (tpk A_tape m_taped m_at)), some (vz (-1)), some (vz (-1))] [] _
        refine ab_aload_n d_MO_readPart_300 rfl ?_
        refine ab_getf (fs := mof m_thrown m_taped m_length m_out w2493 m_gathered m_sets m_ranges m_nodes m_at m_flags f2494 p2495 m_numbered m_depth m_value m_isNot m_least0 m_most0 m_slot m_work m_got m_rowMany m_charAt m_charWide m_trail m_isMatch m_matchGroups m_allFrom m_allBefore m_founds m_pieces m_writtenMany m_templateWide m_tooMuch) f_MO_273 d_MO_readPart_301 h80.2.2 rfl ?_
        refine zz_if_ne (tgt := 312) d_MO_readPart_304 (by decide) (by omega) (fun c505 => ?_) (fun c505 => absurd c505 (by omega))
        refine ab_vret rfl d_MO_readPart_312 ?_
        rw [hQ]; exact (Or.inr ⟨_, _, _, _, _, _, _, _, _, _, _, _, _, _, _, _, _, _, _, _, _, _, ((a1_, b1_, c1_, d1_, e1_) :: t1_), rp, ls, rfl, hfr, hlen, hsl, h80, h87, h88, h93, h91, h92, h110, h111, ptrI_0, (by omega), (by first | exact jmk | exact rgs_w jmk (by omega)), (by first | exact jrl | exact rgs_w jrl (by omega)), (by first | exact jrh | exact rgs_w jrh (by omega)), (by first | exact jns | exact rgs_w jns (by omega)), (by first | exact jnm | exact rgs_w jnm (by omega)), (by exact stF_lf (Or.inr (Or.inr ⟨⟨by omega, c438, c402, c17, c87, c305, c474, c5, c486⟩, (norp_sign ⟨c157, c231, c328, c490⟩), hq498, by omega, by omega⟩)))⟩)
      · cases hv
        have h84 := hfk.get h84 (by decide)
        have h87 := hfk.get h87 (by decide)
        have h88 := hfk.get h88 (by decide)
        have h93 := hfk.get h93 (by decide)
        have h81 := hfk.get h81 (by decide)
        have h82 := hfk.get h82 (by decide)
        have h91 := hfk.get h91 (by decide)
        have h92 := hfk.get h92 (by decide)
        have h110 := hfk.get h110 (by decide)
        have h111 := hfk.get h111 (by decide)
        have ptrI_0 := trI.fr hfk ptrI_0 (by decide) (by decide) (by decide) (by decide) (by decide) (by decide) (by decide) (by decide) (by decide) (by decide) (by decide) (by decide) (by decide) (by decide) (by decide) (by decide) (by decide) (by decide)
        have hfr := hfr.tr hfk (by decide)
        have hlen := hlk.trans hlen
        have hsl := hsk.trans hsl
        have h80 := hN80
        change ab_W _ _ _ G492 299 [some (vR 80), some (vz (tpk A_tape m_taped m_at)), some (vz (-1)), none] [vz v499] _
        refine ab_istore_n d_MO_readPart_299 (Nat.le_of_ble_eq_true rfl) (Nat.le_of_ble_eq_true rfl) rfl ?_
        change ab_W _ _ _ G492 300 [some (vR 80), some (vz (tpk A_tape m_taped m_at)), some (vz (-1)), some (vz v499)] [] _
        refine ab_aload_n d_MO_readPart_300 rfl ?_
        refine ab_getf (fs := mof m_thrown m_taped m_length m_out w2500 m_gathered m_sets m_ranges m_nodes a2501 m_flags m_fault m_place m_numbered m_depth m_value m_isNot m_least0 m_most0 m_slot m_work m_got m_rowMany m_charAt m_charWide m_trail m_isMatch m_matchGroups m_allFrom m_allBefore m_founds m_pieces m_writtenMany m_templateWide m_tooMuch) f_MO_273 d_MO_readPart_301 h80.2.2 rfl ?_
        refine zz_if_ne (tgt := 312) d_MO_readPart_304 (by decide) (by omega) (fun c506 => absurd c506 (by omega)) (fun c506 => ?_)
        refine ab_aload_n d_MO_readPart_307 rfl ?_
        refine ab_iload_n d_MO_readPart_308 rfl ?_
        refine ab_callV (d' := d - 1) (as := [vz v499]) (st := []) (r := _) (z_MO_readCharacter (o := o) (m_thrown := m_thrown) (m_taped := m_taped) (m_length := m_length) (m_out := m_out) (m_wide := w2500) (m_gathered := m_gathered) (m_sets := m_sets) (m_ranges := m_ranges) (m_nodes := m_nodes) (m_at := a2501) (m_flags := m_flags) (m_fault := m_fault) (m_place := m_place) (m_numbered := m_numbered) (m_depth := m_depth) (m_value := m_value) (m_isNot := m_isNot) (m_least0 := m_least0) (m_most0 := m_most0) (m_slot := m_slot) (m_work := m_work) (m_got := m_got) (m_rowMany := m_rowMany) (m_charAt := m_charAt) (m_charWide := m_charWide) (m_trail := m_trail) (m_isMatch := m_isMatch) (m_matchGroups := m_matchGroups) (m_allFrom := m_allFrom) (m_allBefore := m_allBefore) (m_founds := m_founds) (m_pieces := m_pieces) (m_writtenMany := m_writtenMany) (m_templateWide := m_templateWide) (m_tooMuch := m_tooMuch) (A_tape := A_tape) (LO := LO) (HI := HI) (MK := MK) (RL := RL) (RH := RH) (NS := NS) (NM := NM) (rp := rp) (ls := ls) (a1_ := a1_) (b1_ := b1_) (c1_ := c1_) (d1_ := d1_) (e1_ := e1_) (t1_ := t1_) (c := v499) h80 h84 h87 h88 h93 h81 h82 h91 h92 h110 h111 ptrI_0 (by omega) (by omega) jtp jmk jrl jrh jns jnm (by omega) (by omega) (by omega) (by omega) (by omega) (by omega)) (fun oc G2 h => by rcases h with ⟨_, _, _, _, _, _, _, _, _, _, _, _, _, _, _, _, h, _⟩ <;> exact ⟨_, h⟩) (by omega) m_MO_readCharacter ml_MO_378 im_MO_readCharacter se_MO_readCharacter c_MO h80.2.2 (Nat.le_of_ble_eq_true rfl) d_MO_readPart_309 rfl ?_
        intro v G507 hq
        rcases hq with ⟨a2508, g2509, s2510, r2511, n2512, v2513, nt2514, w2515, f2516, p2517, z9518, LO2519, HI2520, MK2521, RL2522, RH2523, hv, hfk, hlk, hsk, hN80, hN87, hN88, hN93, hN91, hN92, hN110, hN111, pNtrI_0, hq524, hq525, hq526, hq527, hq528⟩
        cases hv
        have h84 := hfk.get h84 (by decide)
        have h81 := hfk.get h81 (by decide)
        have h82 := hfk.get h82 (by decide)
        have ptrI_0 := pNtrI_0
        have hfr := hfr.tr hfk (by decide)
        have hlen := hlk.trans hlen
        have hsl := hsk.trans hsl
        have h80 := hN80
        have h87 := hN87
        have h88 := hN88
        have h93 := hN93
        have h91 := hN91
        have h92 := hN92
        have h110 := hN110
        have h111 := hN111
        change ab_W _ _ _ G507 312 [some (vR 80), some (vz (tpk A_tape m_taped m_at)), some (vz (-1)), some (vz v499)] [] _
        refine ab_vret rfl d_MO_readPart_312 ?_
        rw [hQ]; exact (Or.inl ⟨_, _, _, _, _, _, _, _, _, _, _, _, _, _, _, _, _, _, _, _, _, _, ((a1_, b1_, c1_, d1_, (e1_ + z9518)) :: t1_), 1, z9518, na, nl, rfl, hfr, hlen, hsl, h80, h87, h88, h93, h91, h92, h110, h111, ptrI_0, (by omega), (by first | exact hq525 | exact rgs_w hq525 (by omega)), (by first | exact hq526 | exact rgs_w hq526 (by omega)), (by first | exact hq527 | exact rgs_w hq527 (by omega)), (by first | exact jns | exact rgs_w jns (by omega)), (by first | exact jnm | exact rgs_w jnm (by omega)), (by omega), (by exact jnj), (by exact stp_leaf (Or.inr (Or.inr (Or.inr (Or.inr (Or.inr ⟨⟨by omega, c438, c402, c17, c87, c305, c474, c5, c486⟩, (norp_sign ⟨c157, c231, c328, c490⟩), by rw [← hq503]; omega, by rw [← hq503]; omega, by rw [← hq503]; exact hq528⟩))))))⟩)
    · refine ab_aload_n d_MO_readPart_274 rfl ?_
      refine ab_callV (d' := d - 1) (as := []) (st := []) (r := _) (z_MO_numbersEnd (o := o) (m_thrown := m_thrown) (m_taped := m_taped) (m_length := m_length) (m_out := m_out) (m_wide := m_wide) (m_gathered := m_gathered) (m_sets := m_sets) (m_ranges := m_ranges) (m_nodes := m_nodes) (m_at := m_at) (m_flags := m_flags) (m_fault := m_fault) (m_place := m_place) (m_numbered := m_numbered) (m_depth := m_depth) (m_value := m_value) (m_isNot := m_isNot) (m_least0 := m_least0) (m_most0 := m_most0) (m_slot := m_slot) (m_work := m_work) (m_got := m_got) (m_rowMany := m_rowMany) (m_charAt := m_charAt) (m_charWide := m_charWide) (m_trail := m_trail) (m_isMatch := m_isMatch) (m_matchGroups := m_matchGroups) (m_allFrom := m_allFrom) (m_allBefore := m_allBefore) (m_founds := m_founds) (m_pieces := m_pieces) (m_writtenMany := m_writtenMany) (m_templateWide := m_templateWide) (m_tooMuch := m_tooMuch) (A_tape := A_tape) h80 h84 (by omega) (by omega) jtp (by omega) (by omega) (by omega)) (fun oc G2 h => by rcases h with ⟨_, _, h, _⟩ | ⟨_, _, _, _, h, _⟩ <;> exact ⟨_, h⟩) (by omega) m_MO_numbersEnd ml_MO_430 im_MO_numbersEnd se_MO_numbersEnd c_MO h80.2.2 (Nat.le_of_ble_eq_true rfl) d_MO_readPart_275 rfl ?_
      intro v G529 hq
      rcases hq with ⟨le2530, mo2531, hv, hfk, hlk, hsk, hN80, hq532⟩ | ⟨k2533, le2534, mo2535, m9536, hv, hfk, hlk, hsk, hN80, hq537, hq538, hq539⟩
      · cases hv
        have h84 := hfk.get h84 (by decide)
        have h87 := hfk.get h87 (by decide)
        have h88 := hfk.get h88 (by decide)
        have h93 := hfk.get h93 (by decide)
        have h81 := hfk.get h81 (by decide)
        have h82 := hfk.get h82 (by decide)
        have h91 := hfk.get h91 (by decide)
        have h92 := hfk.get h92 (by decide)
        have h110 := hfk.get h110 (by decide)
        have h111 := hfk.get h111 (by decide)
        have ptrI_0 := trI.fr hfk ptrI_0 (by decide) (by decide) (by decide) (by decide) (by decide) (by decide) (by decide) (by decide) (by decide) (by decide) (by decide) (by decide) (by decide) (by decide) (by decide) (by decide) (by decide) (by decide)
        have hfr := hfr.tr hfk (by decide)
        have hlen := hlk.trans hlen
        have hsl := hsk.trans hsl
        have h80 := hN80
        change ab_W _ _ _ G529 278 [some (vR 80), some (vz (tpk A_tape m_taped m_at)), none, none] [vz (-1)] _
        refine ab_goto (tgt := 282) d_MO_readPart_278 (by decide) ?_
        refine ab_istore_n d_MO_readPart_282 (Nat.le_of_ble_eq_true rfl) (Nat.le_of_ble_eq_true rfl) rfl ?_
        change ab_W _ _ _ G529 283 [some (vR 80), some (vz (tpk A_tape m_taped m_at)), some (vz (-1)), none] [] _
        refine ab_iload_n d_MO_readPart_283 rfl ?_
        refine zz_if_le (tgt := 295) d_MO_readPart_284 (by decide) (by decide) (fun c540 => ?_) (fun c540 => absurd c540 (by decide))
        refine ab_aload_n d_MO_readPart_295 rfl ?_
        refine ab_callV (d' := d - 1) (as := []) (st := []) (r := _) (z_MO_plain (o := o) (m_thrown := m_thrown) (m_taped := m_taped) (m_length := m_length) (m_out := m_out) (m_wide := m_wide) (m_gathered := m_gathered) (m_sets := m_sets) (m_ranges := m_ranges) (m_nodes := m_nodes) (m_at := m_at) (m_flags := m_flags) (m_fault := m_fault) (m_place := m_place) (m_numbered := m_numbered) (m_depth := m_depth) (m_value := m_value) (m_isNot := m_isNot) (m_least0 := le2530) (m_most0 := mo2531) (m_slot := m_slot) (m_work := m_work) (m_got := m_got) (m_rowMany := m_rowMany) (m_charAt := m_charAt) (m_charWide := m_charWide) (m_trail := m_trail) (m_isMatch := m_isMatch) (m_matchGroups := m_matchGroups) (m_allFrom := m_allFrom) (m_allBefore := m_allBefore) (m_founds := m_founds) (m_pieces := m_pieces) (m_writtenMany := m_writtenMany) (m_templateWide := m_templateWide) (m_tooMuch := m_tooMuch) (A_tape := A_tape) h80 h84 (by omega) (by omega) jtp (by omega) (by omega) (by omega)) (fun oc G2 h => by rcases h with ⟨_, _, _, h, _⟩ | ⟨_, _, _, h, _⟩ <;> exact ⟨_, h⟩) (by omega) m_MO_plain ml_MO_348 im_MO_plain se_MO_plain c_MO h80.2.2 (Nat.le_of_ble_eq_true rfl) d_MO_readPart_296 rfl ?_
        intro v G541 hq
        rcases hq with ⟨w2542, f2543, p2544, hv, hfk, hlk, hsk, hN80, hq545, hq546, hq547⟩ | ⟨v548, w2549, a2550, hv, hfk, hlk, hsk, hN80, hq551, hq552, hq553⟩
        · cases hv
          have h84 := hfk.get h84 (by decide)
          have h87 := hfk.get h87 (by decide)
          have h88 := hfk.get h88 (by decide)
          have h93 := hfk.get h93 (by decide)
          have h81 := hfk.get h81 (by decide)
          have h82 := hfk.get h82 (by decide)
          have h91 := hfk.get h91 (by decide)
          have h92 := hfk.get h92 (by decide)
          have h110 := hfk.get h110 (by decide)
          have h111 := hfk.get h111 (by decide)
          have ptrI_0 := trI.fr hfk ptrI_0 (by decide) (by decide) (by decide) (by decide) (by decide) (by decide) (by decide) (by decide) (by decide) (by decide) (by decide) (by decide) (by decide) (by decide) (by decide) (by decide) (by decide) (by decide)
          have hfr := hfr.tr hfk (by decide)
          have hlen := hlk.trans hlen
          have hsl := hsk.trans hsl
          have h80 := hN80
          change ab_W _ _ _ G541 299 [some (vR 80), some (vz (tpk A_tape m_taped m_at)), some (vz (-1)), none] [vz (-1)] _
          refine ab_istore_n d_MO_readPart_299 (Nat.le_of_ble_eq_true rfl) (Nat.le_of_ble_eq_true rfl) rfl ?_
          change ab_W _ _ _ G541 300 [some (vR 80), some (vz (tpk A_tape m_taped m_at)), some (vz (-1)), some (vz (-1))] [] _
          refine ab_aload_n d_MO_readPart_300 rfl ?_
          refine ab_getf (fs := mof m_thrown m_taped m_length m_out w2542 m_gathered m_sets m_ranges m_nodes m_at m_flags f2543 p2544 m_numbered m_depth m_value m_isNot le2530 mo2531 m_slot m_work m_got m_rowMany m_charAt m_charWide m_trail m_isMatch m_matchGroups m_allFrom m_allBefore m_founds m_pieces m_writtenMany m_templateWide m_tooMuch) f_MO_273 d_MO_readPart_301 h80.2.2 rfl ?_
          refine zz_if_ne (tgt := 312) d_MO_readPart_304 (by decide) (by omega) (fun c554 => ?_) (fun c554 => absurd c554 (by omega))
          refine ab_vret rfl d_MO_readPart_312 ?_
          rw [hQ]; exact (Or.inr ⟨_, _, _, _, _, _, _, _, _, _, _, _, _, _, _, _, _, _, _, _, _, _, ((a1_, b1_, c1_, d1_, e1_) :: t1_), rp, ls, rfl, hfr, hlen, hsl, h80, h87, h88, h93, h91, h92, h110, h111, ptrI_0, (by omega), (by first | exact jmk | exact rgs_w jmk (by omega)), (by first | exact jrl | exact rgs_w jrl (by omega)), (by first | exact jrh | exact rgs_w jrh (by omega)), (by first | exact jns | exact rgs_w jns (by omega)), (by first | exact jnm | exact rgs_w jnm (by omega)), (by exact stF_lf (Or.inr (Or.inr ⟨⟨by omega, c438, c402, c17, c87, c305, c474, c5, c486⟩, hq532, hq547, by omega, by omega⟩)))⟩)
        · cases hv
          have h84 := hfk.get h84 (by decide)
          have h87 := hfk.get h87 (by decide)
          have h88 := hfk.get h88 (by decide)
          have h93 := hfk.get h93 (by decide)
          have h81 := hfk.get h81 (by decide)
          have h82 := hfk.get h82 (by decide)
          have h91 := hfk.get h91 (by decide)
          have h92 := hfk.get h92 (by decide)
          have h110 := hfk.get h110 (by decide)
          have h111 := hfk.get h111 (by decide)
          have ptrI_0 := trI.fr hfk ptrI_0 (by decide) (by decide) (by decide) (by decide) (by decide) (by decide) (by decide) (by decide) (by decide) (by decide) (by decide) (by decide) (by decide) (by decide) (by decide) (by decide) (by decide) (by decide)
          have hfr := hfr.tr hfk (by decide)
          have hlen := hlk.trans hlen
          have hsl := hsk.trans hsl
          have h80 := hN80
          change ab_W _ _ _ G541 299 [some (vR 80), some (vz (tpk A_tape m_taped m_at)), some (vz (-1)), none] [vz v548] _
          refine ab_istore_n d_MO_readPart_299 (Nat.le_of_ble_eq_true rfl) (Nat.le_of_ble_eq_true rfl) rfl ?_
          change ab_W _ _ _ G541 300 [some (vR 80), some (vz (tpk A_tape m_taped m_at)), some (vz (-1)), some (vz v548)] [] _
          refine ab_aload_n d_MO_readPart_300 rfl ?_
          refine ab_getf (fs := mof m_thrown m_taped m_length m_out w2549 m_gathered m_sets m_ranges m_nodes a2550 m_flags m_fault m_place m_numbered m_depth m_value m_isNot le2530 mo2531 m_slot m_work m_got m_rowMany m_charAt m_charWide m_trail m_isMatch m_matchGroups m_allFrom m_allBefore m_founds m_pieces m_writtenMany m_templateWide m_tooMuch) f_MO_273 d_MO_readPart_301 h80.2.2 rfl ?_
          refine zz_if_ne (tgt := 312) d_MO_readPart_304 (by decide) (by omega) (fun c555 => absurd c555 (by omega)) (fun c555 => ?_)
          refine ab_aload_n d_MO_readPart_307 rfl ?_
          refine ab_iload_n d_MO_readPart_308 rfl ?_
          refine ab_callV (d' := d - 1) (as := [vz v548]) (st := []) (r := _) (z_MO_readCharacter (o := o) (m_thrown := m_thrown) (m_taped := m_taped) (m_length := m_length) (m_out := m_out) (m_wide := w2549) (m_gathered := m_gathered) (m_sets := m_sets) (m_ranges := m_ranges) (m_nodes := m_nodes) (m_at := a2550) (m_flags := m_flags) (m_fault := m_fault) (m_place := m_place) (m_numbered := m_numbered) (m_depth := m_depth) (m_value := m_value) (m_isNot := m_isNot) (m_least0 := le2530) (m_most0 := mo2531) (m_slot := m_slot) (m_work := m_work) (m_got := m_got) (m_rowMany := m_rowMany) (m_charAt := m_charAt) (m_charWide := m_charWide) (m_trail := m_trail) (m_isMatch := m_isMatch) (m_matchGroups := m_matchGroups) (m_allFrom := m_allFrom) (m_allBefore := m_allBefore) (m_founds := m_founds) (m_pieces := m_pieces) (m_writtenMany := m_writtenMany) (m_templateWide := m_templateWide) (m_tooMuch := m_tooMuch) (A_tape := A_tape) (LO := LO) (HI := HI) (MK := MK) (RL := RL) (RH := RH) (NS := NS) (NM := NM) (rp := rp) (ls := ls) (a1_ := a1_) (b1_ := b1_) (c1_ := c1_) (d1_ := d1_) (e1_ := e1_) (t1_ := t1_) (c := v548) h80 h84 h87 h88 h93 h81 h82 h91 h92 h110 h111 ptrI_0 (by omega) (by omega) jtp jmk jrl jrh jns jnm (by omega) (by omega) (by omega) (by omega) (by omega) (by omega)) (fun oc G2 h => by rcases h with ⟨_, _, _, _, _, _, _, _, _, _, _, _, _, _, _, _, h, _⟩ <;> exact ⟨_, h⟩) (by omega) m_MO_readCharacter ml_MO_378 im_MO_readCharacter se_MO_readCharacter c_MO h80.2.2 (Nat.le_of_ble_eq_true rfl) d_MO_readPart_309 rfl ?_
          intro v G556 hq
          rcases hq with ⟨a2557, g2558, s2559, r2560, n2561, v2562, nt2563, w2564, f2565, p2566, z9567, LO2568, HI2569, MK2570, RL2571, RH2572, hv, hfk, hlk, hsk, hN80, hN87, hN88, hN93, hN91, hN92, hN110, hN111, pNtrI_0, hq573, hq574, hq575, hq576, hq577⟩
          cases hv
          have h84 := hfk.get h84 (by decide)
          have h81 := hfk.get h81 (by decide)
          have h82 := hfk.get h82 (by decide)
          have ptrI_0 := pNtrI_0
          have hfr := hfr.tr hfk (by decide)
          have hlen := hlk.trans hlen
          have hsl := hsk.trans hsl
          have h80 := hN80
          have h87 := hN87
          have h88 := hN88
          have h93 := hN93
          have h91 := hN91
          have h92 := hN92
          have h110 := hN110
          have h111 := hN111
          change ab_W _ _ _ G556 312 [some (vR 80), some (vz (tpk A_tape m_taped m_at)), some (vz (-1)), some (vz v548)] [] _
          refine ab_vret rfl d_MO_readPart_312 ?_
          rw [hQ]; exact (Or.inl ⟨_, _, _, _, _, _, _, _, _, _, _, _, _, _, _, _, _, _, _, _, _, _, ((a1_, b1_, c1_, d1_, (e1_ + z9567)) :: t1_), 1, z9567, na, nl, rfl, hfr, hlen, hsl, h80, h87, h88, h93, h91, h92, h110, h111, ptrI_0, (by omega), (by first | exact hq574 | exact rgs_w hq574 (by omega)), (by first | exact hq575 | exact rgs_w hq575 (by omega)), (by first | exact hq576 | exact rgs_w hq576 (by omega)), (by first | exact jns | exact rgs_w jns (by omega)), (by first | exact jnm | exact rgs_w jnm (by omega)), (by omega), (by exact jnj), (by exact stp_leaf (Or.inr (Or.inr (Or.inr (Or.inr (Or.inr ⟨⟨by omega, c438, c402, c17, c87, c305, c474, c5, c486⟩, hq532, by rw [← hq552]; omega, by rw [← hq552]; omega, by rw [← hq552]; exact hq577⟩))))))⟩)
      · cases hv
        have h84 := hfk.get h84 (by decide)
        have h87 := hfk.get h87 (by decide)
        have h88 := hfk.get h88 (by decide)
        have h93 := hfk.get h93 (by decide)
        have h81 := hfk.get h81 (by decide)
        have h82 := hfk.get h82 (by decide)
        have h91 := hfk.get h91 (by decide)
        have h92 := hfk.get h92 (by decide)
        have h110 := hfk.get h110 (by decide)
        have h111 := hfk.get h111 (by decide)
        have ptrI_0 := trI.fr hfk ptrI_0 (by decide) (by decide) (by decide) (by decide) (by decide) (by decide) (by decide) (by decide) (by decide) (by decide) (by decide) (by decide) (by decide) (by decide) (by decide) (by decide) (by decide) (by decide)
        have hfr := hfr.tr hfk (by decide)
        have hlen := hlk.trans hlen
        have hsl := hsk.trans hsl
        have h80 := hN80
        change ab_W _ _ _ G529 278 [some (vR 80), some (vz (tpk A_tape m_taped m_at)), none, none] [vz k2533] _
        refine ab_goto (tgt := 282) d_MO_readPart_278 (by decide) ?_
        refine ab_istore_n d_MO_readPart_282 (Nat.le_of_ble_eq_true rfl) (Nat.le_of_ble_eq_true rfl) rfl ?_
        change ab_W _ _ _ G529 283 [some (vR 80), some (vz (tpk A_tape m_taped m_at)), some (vz k2533), none] [] _
        refine ab_iload_n d_MO_readPart_283 rfl ?_
        refine zz_if_le (tgt := 295) d_MO_readPart_284 (by decide) (by omega) (fun c578 => absurd c578 (by omega)) (fun c578 => ?_)
        refine ab_aload_n d_MO_readPart_287 rfl ?_
        refine ab_iload_n d_MO_readPart_288 rfl ?_
        refine ab_callV (d' := d - 1) (as := [vz k2533]) (st := []) (r := _) (z_MO_readRepeat (o := o) (m_thrown := m_thrown) (m_taped := m_taped) (m_length := m_length) (m_out := m_out) (m_wide := m_wide) (m_gathered := m_gathered) (m_sets := m_sets) (m_ranges := m_ranges) (m_nodes := m_nodes) (m_at := m_at) (m_flags := m_flags) (m_fault := m_fault) (m_place := m_place) (m_numbered := m_numbered) (m_depth := m_depth) (m_value := m_value) (m_isNot := m_isNot) (m_least0 := le2534) (m_most0 := mo2535) (m_slot := m_slot) (m_work := m_work) (m_got := m_got) (m_rowMany := m_rowMany) (m_charAt := m_charAt) (m_charWide := m_charWide) (m_trail := m_trail) (m_isMatch := m_isMatch) (m_matchGroups := m_matchGroups) (m_allFrom := m_allFrom) (m_allBefore := m_allBefore) (m_founds := m_founds) (m_pieces := m_pieces) (m_writtenMany := m_writtenMany) (m_templateWide := m_templateWide) (m_tooMuch := m_tooMuch) (A_tape := A_tape) (LO := LO) (HI := HI) (MK := MK) (RL := RL) (RH := RH) (NS := NS) (NM := NM) (rp := rp) (ls := ls) (a1_ := a1_) (b1_ := b1_) (c1_ := c1_) (d1_ := d1_) (e1_ := e1_) (mo9 := m9536) (t1_ := t1_) (be := k2533) (kd9 := 1) h80 h84 h87 h88 h93 h81 h82 h91 h92 h110 h111 ptrI_0 (by omega) (by omega) jtp jmk jrl jrh jns jnm (by omega) (by omega) (by omega) (by omega) (by omega) jnj (by omega) (by omega) (by omega) hq539 (by omega)) (fun oc G2 h => by rcases h with ⟨_, _, _, _, _, _, _, _, _, _, _, _, _, _, _, _, _, _, _, _, _, _, _, _, _, _, _, h, _⟩ | ⟨_, _, _, _, _, _, _, _, _, _, _, _, _, _, _, _, _, _, _, _, _, _, _, _, _, h, _⟩ <;> exact ⟨_, h⟩) (by omega) m_MO_readRepeat ml_MO_427 im_MO_readRepeat se_MO_readRepeat c_MO h80.2.2 (Nat.le_of_ble_eq_true rfl) d_MO_readPart_289 rfl ?_
        intro v G579 hq
        rcases hq with ⟨a2580, v2581, nt2582, w2583, g2584, s2585, r2586, n2587, fl2588, nu2589, d2590, le2591, mo2592, f2593, p2594, LO2595, HI2596, MK2597, RL2598, RH2599, NS2600, NM2601, fr2602, rp2603, ls2604, na2605, nl2606, hv, hfk, hlk, hsk, hN80, hN87, hN88, hN93, hN91, hN92, hN110, hN111, pNtrI_0, hq607, hq608, hq609, hq610, hq611, hq612, hq613, hq614, hq615⟩ | ⟨a2616, v2617, nt2618, w2619, g2620, s2621, r2622, n2623, fl2624, nu2625, d2626, le2627, mo2628, f2629, p2630, LO2631, HI2632, MK2633, RL2634, RH2635, NS2636, NM2637, fr2638, rp2639, ls2640, hv, hfk, hlk, hsk, hN80, hN87, hN88, hN93, hN91, hN92, hN110, hN111, pNtrI_0, hq641, hq642, hq643, hq644, hq645, hq646, hq647⟩
        · cases hv
          have h84 := hfk.get h84 (by decide)
          have h81 := hfk.get h81 (by decide)
          have h82 := hfk.get h82 (by decide)
          have ptrI_0 := pNtrI_0
          have hfr := hfr.tr hfk (by decide)
          have hlen := hlk.trans hlen
          have hsl := hsk.trans hsl
          have h80 := hN80
          have h87 := hN87
          have h88 := hN88
          have h93 := hN93
          have h91 := hN91
          have h92 := hN92
          have h110 := hN110
          have h111 := hN111
          change ab_W _ _ _ G579 292 [some (vR 80), some (vz (tpk A_tape m_taped m_at)), some (vz k2533), none] [] _
          refine ab_goto (tgt := 312) d_MO_readPart_292 (by decide) ?_
          refine ab_vret rfl d_MO_readPart_312 ?_
          rw [hQ]; exact (Or.inl ⟨_, _, _, _, _, _, _, _, _, _, _, _, _, _, _, _, _, _, _, _, _, _, fr2602, rp2603, ls2604, na2605, nl2606, rfl, hfr, hlen, hsl, h80, h87, h88, h93, h91, h92, h110, h111, ptrI_0, (by omega), (by first | exact hq608 | exact rgs_w hq608 (by omega)), (by first | exact hq609 | exact rgs_w hq609 (by omega)), (by first | exact hq610 | exact rgs_w hq610 (by omega)), (by first | exact hq611 | exact rgs_w hq611 (by omega)), (by first | exact hq612 | exact rgs_w hq612 (by omega)), (by omega), (by exact hq614), (by exact hq615)⟩)
        · cases hv
          have h84 := hfk.get h84 (by decide)
          have h81 := hfk.get h81 (by decide)
          have h82 := hfk.get h82 (by decide)
          have ptrI_0 := pNtrI_0
          have hfr := hfr.tr hfk (by decide)
          have hlen := hlk.trans hlen
          have hsl := hsk.trans hsl
          have h80 := hN80
          have h87 := hN87
          have h88 := hN88
          have h93 := hN93
          have h91 := hN91
          have h92 := hN92
          have h110 := hN110
          have h111 := hN111
          change ab_W _ _ _ G579 292 [some (vR 80), some (vz (tpk A_tape m_taped m_at)), some (vz k2533), none] [] _
          refine ab_goto (tgt := 312) d_MO_readPart_292 (by decide) ?_
          refine ab_vret rfl d_MO_readPart_312 ?_
          rw [hQ]; exact (Or.inr ⟨_, _, _, _, _, _, _, _, _, _, _, _, _, _, _, _, _, _, _, _, _, _, fr2638, rp2639, ls2640, rfl, hfr, hlen, hsl, h80, h87, h88, h93, h91, h92, h110, h111, ptrI_0, (by omega), (by first | exact hq642 | exact rgs_w hq642 (by omega)), (by first | exact hq643 | exact rgs_w hq643 (by omega)), (by first | exact hq644 | exact rgs_w hq644 (by omega)), (by first | exact hq645 | exact rgs_w hq645 (by omega)), (by first | exact hq646 | exact rgs_w hq646 (by omega)), (by exact hq647)⟩)
  · cases hv
    rw [hGe]
    change ab_W _ _ _ G 5 [some (vR 80), none, none, none] [vz (-1)] _
    exfalso; omega
