set_option maxRecDepth 100000 in
set_option maxHeartbeats 4000000 in
theorem z_MO_closeGroup {X : ab_X} {d : Nat} {o : Nat → Nat} {G : ab_G} {m_thrown : Int} {m_taped : Int} {m_length : Int} {m_out : Int} {m_wide : Int} {m_gathered : Int} {m_sets : Int} {m_ranges : Int} {m_nodes : Int} {m_at : Int} {m_flags : Int} {m_fault : Int} {m_place : Int} {m_numbered : Int} {m_depth : Int} {m_value : Int} {m_isNot : Int} {m_least0 : Int} {m_most0 : Int} {m_slot : Int} {m_work : Int} {m_got : Int} {m_rowMany : Int} {m_charAt : Int} {m_charWide : Int} {m_trail : Int} {m_isMatch : Int} {m_matchGroups : Int} {m_allFrom : Int} {m_allBefore : Int} {m_founds : Int} {m_pieces : Int} {m_writtenMany : Int} {m_templateWide : Int} {m_tooMuch : Int} {A_tape : Int → Int} {LO : Int → Int} {HI : Int → Int} {MK : Int → Int} {RL : Int → Int} {RH : Int → Int} {NS : Int → Int} {NM : Int → Int} (h80 : cc o G 80 280 (ab_ob 12 (mof m_thrown m_taped m_length m_out m_wide m_gathered m_sets m_ranges m_nodes m_at m_flags m_fault m_place m_numbered m_depth m_value m_isNot m_least0 m_most0 m_slot m_work m_got m_rowMany m_charAt m_charWide m_trail m_isMatch m_matchGroups m_allFrom m_allBefore m_founds m_pieces m_writtenMany m_templateWide m_tooMuch))) (h84 : cc o G 84 284 (za 2000 A_tape)) (h87 : cc o G 87 287 (za 9000 LO)) (h88 : cc o G 88 288 (za 9000 HI)) (h93 : cc o G 93 293 (zb 1200 MK)) (h81 : cc o G 81 281 (za 13 tbA)) (h82 : cc o G 82 282 (za 66 tbT)) (h91 : cc o G 91 291 (za 24000 RL)) (h92 : cc o G 92 292 (za 24000 RH)) (h110 : cc o G 110 310 (za 120 NS)) (h111 : cc o G 111 311 (za 10 NM)) (ptrI_0 : trI o G 0 m_nodes m_sets (m_depth + 1) (-1) 0 0) (n18 : ab_n0 = 18) (cta : 0 ≤ m_taped ∧ m_taped ≤ 2000) (jtp : rgs A_tape 2000 0 255) (jmk : rgs MK 1200 0 1) (jrl : rgs RL 24000 0 1114111) (jrh : rgs RH 24000 0 1114111) (jns : rgs NS 120 0 255) (jnm : rgs NM 10 0 12) (cf : m_fault = 0) (cat : 0 ≤ m_at ∧ m_at < m_taped) (cpo : 0 ≤ m_nodes ∧ m_nodes + 2 * m_depth + 0 ≤ 2 * m_at ∧ 0 ≤ m_sets ∧ m_sets + 0 ≤ m_at ∧ 0 ≤ m_ranges ∧ m_ranges + 0 ≤ 12 * m_at ∧ 0 ≤ m_depth ∧ m_depth ≤ 30 ∧ 0 ≤ m_numbered ∧ m_numbered ≤ 9 ∧ -2147483648 ≤ m_flags ∧ m_flags ≤ 2147483647 ∧ -2147483648 ≤ m_value ∧ m_value ≤ 2147483647) (hd : 4 ≤ d) : ab_F X d y_MO_closeGroup (.code y_MO_closeGroup b_MO_closeGroup 4 none) [vR 80] G (fun oc G2 => (∃ a2 : Int, ∃ v2 : Int, ∃ nt2 : Int, ∃ w2 : Int, ∃ g2 : Int, ∃ s2 : Int, ∃ r2 : Int, ∃ n2 : Int, ∃ fl2 : Int, ∃ nu2 : Int, ∃ d2 : Int, ∃ le2 : Int, ∃ mo2 : Int, ∃ f2 : Int, ∃ p2 : Int, ∃ LO2 : Int → Int, ∃ HI2 : Int → Int, ∃ MK2 : Int → Int, ∃ RL2 : Int → Int, ∃ RH2 : Int → Int, ∃ NS2 : Int → Int, ∃ NM2 : Int → Int, oc = .returned none ∧ fx o o [280, 287, 288, 293, 291, 292, 310, 311, 294, 295, 296, 297, 298, 299, 300, 301, 290, 289, 305, 306, 307, 308, 309, 302, 303, 304] G G2 ∧ G2.length = G.length ∧ ab_slots G2 = ab_slots G ∧ cc o G2 80 280 (ab_ob 12 (mof m_thrown m_taped m_length m_out w2 g2 s2 r2 n2 a2 fl2 f2 p2 nu2 d2 v2 nt2 le2 mo2 m_slot m_work m_got m_rowMany m_charAt m_charWide m_trail m_isMatch m_matchGroups m_allFrom m_allBefore m_founds m_pieces m_writtenMany m_templateWide m_tooMuch)) ∧ cc o G2 87 287 (za 9000 LO2) ∧ cc o G2 88 288 (za 9000 HI2) ∧ cc o G2 93 293 (zb 1200 MK2) ∧ cc o G2 91 291 (za 24000 RL2) ∧ cc o G2 92 292 (za 24000 RH2) ∧ cc o G2 110 310 (za 120 NS2) ∧ cc o G2 111 311 (za 10 NM2) ∧ trI o G2 0 n2 s2 (d2 + 1) (-1) 0 0 ∧ (f2 = 0 ∧ m_at < a2 ∧ a2 ≤ m_taped ∧ 0 ≤ n2 ∧ n2 + 2 * d2 ≤ 2 * a2 ∧ 0 ≤ s2 ∧ s2 ≤ a2 ∧ 0 ≤ r2 ∧ r2 ≤ 12 * a2 ∧ 0 ≤ d2 ∧ d2 ≤ 30 ∧ 0 ≤ nu2 ∧ nu2 ≤ 9 ∧ -2147483648 ≤ fl2 ∧ fl2 ≤ 2147483647 ∧ -2147483648 ≤ v2 ∧ v2 ≤ 2147483647) ∧ (rgs MK2 1200 0 1) ∧ (rgs RL2 24000 0 1114111) ∧ (rgs RH2 24000 0 1114111) ∧ (rgs NS2 120 0 255) ∧ (rgs NM2 10 0 12)) ∨ (∃ a2 : Int, ∃ v2 : Int, ∃ nt2 : Int, ∃ w2 : Int, ∃ g2 : Int, ∃ s2 : Int, ∃ r2 : Int, ∃ n2 : Int, ∃ fl2 : Int, ∃ nu2 : Int, ∃ d2 : Int, ∃ le2 : Int, ∃ mo2 : Int, ∃ f2 : Int, ∃ p2 : Int, ∃ LO2 : Int → Int, ∃ HI2 : Int → Int, ∃ MK2 : Int → Int, ∃ RL2 : Int → Int, ∃ RH2 : Int → Int, ∃ NS2 : Int → Int, ∃ NM2 : Int → Int, oc = .returned none ∧ fx o o [280, 287, 288, 293, 291, 292, 310, 311, 294, 295, 296, 297, 298, 299, 300, 301, 290, 289, 305, 306, 307, 308, 309, 302, 303, 304] G G2 ∧ G2.length = G.length ∧ ab_slots G2 = ab_slots G ∧ cc o G2 80 280 (ab_ob 12 (mof m_thrown m_taped m_length m_out w2 g2 s2 r2 n2 a2 fl2 f2 p2 nu2 d2 v2 nt2 le2 mo2 m_slot m_work m_got m_rowMany m_charAt m_charWide m_trail m_isMatch m_matchGroups m_allFrom m_allBefore m_founds m_pieces m_writtenMany m_templateWide m_tooMuch)) ∧ cc o G2 87 287 (za 9000 LO2) ∧ cc o G2 88 288 (za 9000 HI2) ∧ cc o G2 93 293 (zb 1200 MK2) ∧ cc o G2 91 291 (za 24000 RL2) ∧ cc o G2 92 292 (za 24000 RH2) ∧ cc o G2 110 310 (za 120 NS2) ∧ cc o G2 111 311 (za 10 NM2) ∧ trI o G2 0 n2 s2 (d2 + 1) (-1) 0 0 ∧ (1 ≤ f2 ∧ f2 ≤ 14 ∧ 0 ≤ a2 ∧ a2 ≤ 4000 ∧ 0 ≤ n2 ∧ n2 ≤ 4200 ∧ 0 ≤ s2 ∧ s2 ≤ 2100 ∧ 0 ≤ r2 ∧ r2 ≤ 24000 ∧ 0 ≤ d2 ∧ d2 ≤ 30 ∧ 0 ≤ nu2 ∧ nu2 ≤ 9 ∧ -2147483648 ≤ fl2 ∧ fl2 ≤ 2147483647 ∧ -2147483648 ≤ v2 ∧ v2 ≤ 2147483647) ∧ (rgs MK2 1200 0 1) ∧ (rgs RL2 24000 0 1114111) ∧ (rgs RH2 24000 0 1114111) ∧ (rgs NS2 120 0 255) ∧ (rgs NM2 10 0 12))) := by
  refine ab_F_of (by decide +kernel) (Nat.le_of_ble_eq_true rfl) ?_
  obtain ⟨Q, hQ⟩ : ∃ z : Outcome → ab_G → Prop, z = (fun oc G2 => (∃ a2 : Int, ∃ v2 : Int, ∃ nt2 : Int, ∃ w2 : Int, ∃ g2 : Int, ∃ s2 : Int, ∃ r2 : Int, ∃ n2 : Int, ∃ fl2 : Int, ∃ nu2 : Int, ∃ d2 : Int, ∃ le2 : Int, ∃ mo2 : Int, ∃ f2 : Int, ∃ p2 : Int, ∃ LO2 : Int → Int, ∃ HI2 : Int → Int, ∃ MK2 : Int → Int, ∃ RL2 : Int → Int, ∃ RH2 : Int → Int, ∃ NS2 : Int → Int, ∃ NM2 : Int → Int, oc = .returned none ∧ fx o o [280, 287, 288, 293, 291, 292, 310, 311, 294, 295, 296, 297, 298, 299, 300, 301, 290, 289, 305, 306, 307, 308, 309, 302, 303, 304] G G2 ∧ G2.length = G.length ∧ ab_slots G2 = ab_slots G ∧ cc o G2 80 280 (ab_ob 12 (mof m_thrown m_taped m_length m_out w2 g2 s2 r2 n2 a2 fl2 f2 p2 nu2 d2 v2 nt2 le2 mo2 m_slot m_work m_got m_rowMany m_charAt m_charWide m_trail m_isMatch m_matchGroups m_allFrom m_allBefore m_founds m_pieces m_writtenMany m_templateWide m_tooMuch)) ∧ cc o G2 87 287 (za 9000 LO2) ∧ cc o G2 88 288 (za 9000 HI2) ∧ cc o G2 93 293 (zb 1200 MK2) ∧ cc o G2 91 291 (za 24000 RL2) ∧ cc o G2 92 292 (za 24000 RH2) ∧ cc o G2 110 310 (za 120 NS2) ∧ cc o G2 111 311 (za 10 NM2) ∧ trI o G2 0 n2 s2 (d2 + 1) (-1) 0 0 ∧ (f2 = 0 ∧ m_at < a2 ∧ a2 ≤ m_taped ∧ 0 ≤ n2 ∧ n2 + 2 * d2 ≤ 2 * a2 ∧ 0 ≤ s2 ∧ s2 ≤ a2 ∧ 0 ≤ r2 ∧ r2 ≤ 12 * a2 ∧ 0 ≤ d2 ∧ d2 ≤ 30 ∧ 0 ≤ nu2 ∧ nu2 ≤ 9 ∧ -2147483648 ≤ fl2 ∧ fl2 ≤ 2147483647 ∧ -2147483648 ≤ v2 ∧ v2 ≤ 2147483647) ∧ (rgs MK2 1200 0 1) ∧ (rgs RL2 24000 0 1114111) ∧ (rgs RH2 24000 0 1114111) ∧ (rgs NS2 120 0 255) ∧ (rgs NM2 10 0 12)) ∨ (∃ a2 : Int, ∃ v2 : Int, ∃ nt2 : Int, ∃ w2 : Int, ∃ g2 : Int, ∃ s2 : Int, ∃ r2 : Int, ∃ n2 : Int, ∃ fl2 : Int, ∃ nu2 : Int, ∃ d2 : Int, ∃ le2 : Int, ∃ mo2 : Int, ∃ f2 : Int, ∃ p2 : Int, ∃ LO2 : Int → Int, ∃ HI2 : Int → Int, ∃ MK2 : Int → Int, ∃ RL2 : Int → Int, ∃ RH2 : Int → Int, ∃ NS2 : Int → Int, ∃ NM2 : Int → Int, oc = .returned none ∧ fx o o [280, 287, 288, 293, 291, 292, 310, 311, 294, 295, 296, 297, 298, 299, 300, 301, 290, 289, 305, 306, 307, 308, 309, 302, 303, 304] G G2 ∧ G2.length = G.length ∧ ab_slots G2 = ab_slots G ∧ cc o G2 80 280 (ab_ob 12 (mof m_thrown m_taped m_length m_out w2 g2 s2 r2 n2 a2 fl2 f2 p2 nu2 d2 v2 nt2 le2 mo2 m_slot m_work m_got m_rowMany m_charAt m_charWide m_trail m_isMatch m_matchGroups m_allFrom m_allBefore m_founds m_pieces m_writtenMany m_templateWide m_tooMuch)) ∧ cc o G2 87 287 (za 9000 LO2) ∧ cc o G2 88 288 (za 9000 HI2) ∧ cc o G2 93 293 (zb 1200 MK2) ∧ cc o G2 91 291 (za 24000 RL2) ∧ cc o G2 92 292 (za 24000 RH2) ∧ cc o G2 110 310 (za 120 NS2) ∧ cc o G2 111 311 (za 10 NM2) ∧ trI o G2 0 n2 s2 (d2 + 1) (-1) 0 0 ∧ (1 ≤ f2 ∧ f2 ≤ 14 ∧ 0 ≤ a2 ∧ a2 ≤ 4000 ∧ 0 ≤ n2 ∧ n2 ≤ 4200 ∧ 0 ≤ s2 ∧ s2 ≤ 2100 ∧ 0 ≤ r2 ∧ r2 ≤ 24000 ∧ 0 ≤ d2 ∧ d2 ≤ 30 ∧ 0 ≤ nu2 ∧ nu2 ≤ 9 ∧ -2147483648 ≤ fl2 ∧ fl2 ≤ 2147483647 ∧ -2147483648 ≤ v2 ∧ v2 ≤ 2147483647) ∧ (rgs MK2 1200 0 1) ∧ (rgs RL2 24000 0 1114111) ∧ (rgs RH2 24000 0 1114111) ∧ (rgs NS2 120 0 255) ∧ (rgs NM2 10 0 12))) := ⟨_, rfl⟩
  rw [← hQ]
  change ab_W X (ab_pl y_MO_closeGroup b_MO_closeGroup 4 none) d G 0 [some (vR 80), none, none, none] [] Q
  have hfr : fx o o [280, 287, 288, 293, 291, 292, 310, 311, 294, 295, 296, 297, 298, 299, 300, 301, 290, 289, 305, 306, 307, 308, 309, 302, 303, 304] G G := fx.rf
  have hlen : G.length = G.length := rfl
  have hsl : ab_slots G = ab_slots G := rfl
  refine ab_aload_n d_MO_closeGroup_0 rfl ?_
  refine ab_getf (fs := mof m_thrown m_taped m_length m_out m_wide m_gathered m_sets m_ranges m_nodes m_at m_flags m_fault m_place m_numbered m_depth m_value m_isNot m_least0 m_most0 m_slot m_work m_got m_rowMany m_charAt m_charWide m_trail m_isMatch m_matchGroups m_allFrom m_allBefore m_founds m_pieces m_writtenMany m_templateWide m_tooMuch) f_MO_282 d_MO_closeGroup_1 h80.2.2 rfl ?_
  refine zz_if_ne (tgt := 17) d_MO_closeGroup_4 (by decide) (by omega) (fun c1 => ?_) (fun c1 => ?_)
  · refine ab_aload_n d_MO_closeGroup_17 rfl ?_
    refine ab_callV (d' := d - 1) (as := []) (st := []) (r := _) (z_MO_closeAll (o := o) (m_thrown := m_thrown) (m_taped := m_taped) (m_length := m_length) (m_out := m_out) (m_wide := m_wide) (m_gathered := m_gathered) (m_sets := m_sets) (m_ranges := m_ranges) (m_nodes := m_nodes) (m_at := m_at) (m_flags := m_flags) (m_fault := m_fault) (m_place := m_place) (m_numbered := m_numbered) (m_depth := m_depth) (m_value := m_value) (m_isNot := m_isNot) (m_least0 := m_least0) (m_most0 := m_most0) (m_slot := m_slot) (m_work := m_work) (m_got := m_got) (m_rowMany := m_rowMany) (m_charAt := m_charAt) (m_charWide := m_charWide) (m_trail := m_trail) (m_isMatch := m_isMatch) (m_matchGroups := m_matchGroups) (m_allFrom := m_allFrom) (m_allBefore := m_allBefore) (m_founds := m_founds) (m_pieces := m_pieces) (m_writtenMany := m_writtenMany) (m_templateWide := m_templateWide) (m_tooMuch := m_tooMuch) (re_ := 0) h80 ptrI_0 (by omega) (by omega) (by omega) (by omega)) (fun oc G2 h => by rcases h with ⟨h, _⟩ <;> exact ⟨_, h⟩) (by omega) m_MO_closeAll ml_MO_398 im_MO_closeAll se_MO_closeAll c_MO h80.2.2 (Nat.le_of_ble_eq_true rfl) d_MO_closeGroup_18 rfl ?_
    intro v G2 hq
    rcases hq with ⟨hv, hfk, hlk, hsk, hN80, pNtrI_0⟩
    cases hv
    have h84 := hfk.get h84 (by decide)
    have h87 := hfk.get h87 (by decide)
    have h88 := hfk.get h88 (by decide)
    have h93 := hfk.get h93 (by decide)
    have h81 := hfk.get h81 (by decide)
    have h82 := hfk.get h82 (by decide)
    have h91 := hfk.get h91 (by decide)
    have h92 := hfk.get h92 (by decide)
    have h110 := hfk.get h110 (by decide)
    have h111 := hfk.get h111 (by decide)
    have ptrI_0 := pNtrI_0
    have hfr := hfr.tr hfk (by decide)
    have hlen := hlk.trans hlen
    have hsl := hsk.trans hsl
    have h80 := hN80
    change ab_W _ _ _ G2 21 [some (vR 80), none, none, none] [vz (m_nodes + 1)] _
    obtain ⟨K, O, Fi, Be, Le, Mo, Z, LZ, SM, SA, QF, QL, AF, AL, SD, OA, OF, ON, h94, h95, h96, h97, h98, h99, h100, h101, h90, h89, h105, h106, h107, h108, h109, h102, h103, h104, jk, jo, jfi, jbe, jle, jmo, jz, jlz, jsm, jsa, jqf, jql, jaf, jal, jsd, joa, jof, jon, jt, cnd, cre, crs, crz, ck5, ck6, jss⟩ := ptrI_0
    have hin_ := (rtr_in jt).1 (by omega)
    have hzi_ := rtr_z jt (i := m_nodes + 1) (by omega)
    refine ab_istore_n d_MO_closeGroup_21 (Nat.le_of_ble_eq_true rfl) (Nat.le_of_ble_eq_true rfl) rfl ?_
    change ab_W _ _ _ G2 22 [some (vR 80), some (vz (m_nodes + 1)), none, none] [] _
    refine ab_aload_n d_MO_closeGroup_22 rfl ?_
    refine ab_getf (fs := mof m_thrown m_taped m_length m_out m_wide m_gathered m_sets m_ranges (m_nodes + 1 + 1) m_at m_flags m_fault m_place m_numbered m_depth m_value m_isNot m_least0 m_most0 m_slot m_work m_got m_rowMany m_charAt m_charWide m_trail m_isMatch m_matchGroups m_allFrom m_allBefore m_founds m_pieces m_writtenMany m_templateWide m_tooMuch) f_MO_85 d_MO_closeGroup_23 h80.2.2 rfl ?_
    refine ab_aload_n d_MO_closeGroup_26 rfl ?_
    refine ab_getf (fs := mof m_thrown m_taped m_length m_out m_wide m_gathered m_sets m_ranges (m_nodes + 1 + 1) m_at m_flags m_fault m_place m_numbered m_depth m_value m_isNot m_least0 m_most0 m_slot m_work m_got m_rowMany m_charAt m_charWide m_trail m_isMatch m_matchGroups m_allFrom m_allBefore m_founds m_pieces m_writtenMany m_templateWide m_tooMuch) f_MO_282 d_MO_closeGroup_27 h80.2.2 rfl ?_
    refine zz_iald d_MO_closeGroup_30 h104 (by omega) ?_
    have hq3 := jon m_depth (by omega) (by omega)
    refine ab_istore_n d_MO_closeGroup_31 (Nat.le_of_ble_eq_true rfl) (Nat.le_of_ble_eq_true rfl) rfl ?_
    change ab_W _ _ _ G2 32 [some (vR 80), some (vz (m_nodes + 1)), some (vz (ON m_depth)), none] [] _
    refine ab_aload_n d_MO_closeGroup_32 rfl ?_
    refine ab_aload_n d_MO_closeGroup_33 rfl ?_
    refine ab_getf (fs := mof m_thrown m_taped m_length m_out m_wide m_gathered m_sets m_ranges (m_nodes + 1 + 1) m_at m_flags m_fault m_place m_numbered m_depth m_value m_isNot m_least0 m_most0 m_slot m_work m_got m_rowMany m_charAt m_charWide m_trail m_isMatch m_matchGroups m_allFrom m_allBefore m_founds m_pieces m_writtenMany m_templateWide m_tooMuch) f_MO_82 d_MO_closeGroup_34 h80.2.2 rfl ?_
    refine ab_aload_n d_MO_closeGroup_37 rfl ?_
    refine ab_getf (fs := mof m_thrown m_taped m_length m_out m_wide m_gathered m_sets m_ranges (m_nodes + 1 + 1) m_at m_flags m_fault m_place m_numbered m_depth m_value m_isNot m_least0 m_most0 m_slot m_work m_got m_rowMany m_charAt m_charWide m_trail m_isMatch m_matchGroups m_allFrom m_allBefore m_founds m_pieces m_writtenMany m_templateWide m_tooMuch) f_MO_282 d_MO_closeGroup_38 h80.2.2 rfl ?_
    refine zz_iald d_MO_closeGroup_41 h103 (by omega) ?_
    have hq4 := jof m_depth (by omega) (by omega)
    refine ab_putf (fs := mof m_thrown m_taped m_length m_out m_wide m_gathered m_sets m_ranges (m_nodes + 1 + 1) m_at m_flags m_fault m_place m_numbered m_depth m_value m_isNot m_least0 m_most0 m_slot m_work m_got m_rowMany m_charAt m_charWide m_trail m_isMatch m_matchGroups m_allFrom m_allBefore m_founds m_pieces m_writtenMany m_templateWide m_tooMuch) f_MO_276 (Or.inl rfl) d_MO_closeGroup_42 h80.2.2 (Nat.le_of_ble_eq_true rfl) (fun _ => ⟨rfl, rfl⟩) (h80.2.1 (by decide)) ?_
    obtain ⟨G5, eG5⟩ : ∃ z : ab_G, z = List.set G2 80 (ab_ob 12 (mof m_thrown m_taped m_length m_out m_wide m_gathered m_sets m_ranges (m_nodes + 1 + 1) m_at (OF m_depth) m_fault m_place m_numbered m_depth m_value m_isNot m_least0 m_most0 m_slot m_work m_got m_rowMany m_charAt m_charWide m_trail m_isMatch m_matchGroups m_allFrom m_allBefore m_founds m_pieces m_writtenMany m_templateWide m_tooMuch)) := ⟨_, rfl⟩
    have h84 := h84.keep h80 eG5 (by decide)
    have h87 := h87.keep h80 eG5 (by decide)
    have h88 := h88.keep h80 eG5 (by decide)
    have h93 := h93.keep h80 eG5 (by decide)
    have h81 := h81.keep h80 eG5 (by decide)
    have h82 := h82.keep h80 eG5 (by decide)
    have h91 := h91.keep h80 eG5 (by decide)
    have h92 := h92.keep h80 eG5 (by decide)
    have h110 := h110.keep h80 eG5 (by decide)
    have h111 := h111.keep h80 eG5 (by decide)
    have h94 := h94.keep h80 eG5 (by decide)
    have h95 := h95.keep h80 eG5 (by decide)
    have h96 := h96.keep h80 eG5 (by decide)
    have h97 := h97.keep h80 eG5 (by decide)
    have h98 := h98.keep h80 eG5 (by decide)
    have h99 := h99.keep h80 eG5 (by decide)
    have h100 := h100.keep h80 eG5 (by decide)
    have h101 := h101.keep h80 eG5 (by decide)
    have h90 := h90.keep h80 eG5 (by decide)
    have h89 := h89.keep h80 eG5 (by decide)
    have h105 := h105.keep h80 eG5 (by decide)
    have h106 := h106.keep h80 eG5 (by decide)
    have h107 := h107.keep h80 eG5 (by decide)
    have h108 := h108.keep h80 eG5 (by decide)
    have h109 := h109.keep h80 eG5 (by decide)
    have h102 := h102.keep h80 eG5 (by decide)
    have h103 := h103.keep h80 eG5 (by decide)
    have h104 := h104.keep h80 eG5 (by decide)
    have hlen := (z_len eG5).trans hlen
    have hsl := (z_sl h80 eG5 rfl).trans hsl
    have hfr := hfr.wr h80 eG5 (by decide)
    have h80 := h80.kept eG5
    change ab_W _ _ _ (List.set G2 80 (ab_ob 12 (mof m_thrown m_taped m_length m_out m_wide m_gathered m_sets m_ranges (m_nodes + 1 + 1) m_at (OF m_depth) m_fault m_place m_numbered m_depth m_value m_isNot m_least0 m_most0 m_slot m_work m_got m_rowMany m_charAt m_charWide m_trail m_isMatch m_matchGroups m_allFrom m_allBefore m_founds m_pieces m_writtenMany m_templateWide m_tooMuch))) 45 [some (vR 80), some (vz (m_nodes + 1)), some (vz (ON m_depth)), none] [] _
    rw [← eG5]
    refine ab_aload_n d_MO_closeGroup_45 rfl ?_
    refine ab_dup d_MO_closeGroup_46 rfl ?_
    refine ab_getf (fs := mof m_thrown m_taped m_length m_out m_wide m_gathered m_sets m_ranges (m_nodes + 1 + 1) m_at (OF m_depth) m_fault m_place m_numbered m_depth m_value m_isNot m_least0 m_most0 m_slot m_work m_got m_rowMany m_charAt m_charWide m_trail m_isMatch m_matchGroups m_allFrom m_allBefore m_founds m_pieces m_writtenMany m_templateWide m_tooMuch) f_MO_282 d_MO_closeGroup_47 h80.2.2 rfl ?_
    refine zz_iconst d_MO_closeGroup_50 ?_
    refine zz_isub d_MO_closeGroup_51 ?_
    refine ab_putf (fs := mof m_thrown m_taped m_length m_out m_wide m_gathered m_sets m_ranges (m_nodes + 1 + 1) m_at (OF m_depth) m_fault m_place m_numbered m_depth m_value m_isNot m_least0 m_most0 m_slot m_work m_got m_rowMany m_charAt m_charWide m_trail m_isMatch m_matchGroups m_allFrom m_allBefore m_founds m_pieces m_writtenMany m_templateWide m_tooMuch) f_MO_282 (Or.inl rfl) d_MO_closeGroup_52 h80.2.2 (Nat.le_of_ble_eq_true rfl) (fun _ => ⟨rfl, rfl⟩) (h80.2.1 (by decide)) ?_
    obtain ⟨G6, eG6⟩ : ∃ z : ab_G, z = List.set G5 80 (ab_ob 12 (mof m_thrown m_taped m_length m_out m_wide m_gathered m_sets m_ranges (m_nodes + 1 + 1) m_at (OF m_depth) m_fault m_place m_numbered (m_depth - 1) m_value m_isNot m_least0 m_most0 m_slot m_work m_got m_rowMany m_charAt m_charWide m_trail m_isMatch m_matchGroups m_allFrom m_allBefore m_founds m_pieces m_writtenMany m_templateWide m_tooMuch)) := ⟨_, rfl⟩
    have h84 := h84.keep h80 eG6 (by decide)
    have h87 := h87.keep h80 eG6 (by decide)
    have h88 := h88.keep h80 eG6 (by decide)
    have h93 := h93.keep h80 eG6 (by decide)
    have h81 := h81.keep h80 eG6 (by decide)
    have h82 := h82.keep h80 eG6 (by decide)
    have h91 := h91.keep h80 eG6 (by decide)
    have h92 := h92.keep h80 eG6 (by decide)
    have h110 := h110.keep h80 eG6 (by decide)
    have h111 := h111.keep h80 eG6 (by decide)
    have h94 := h94.keep h80 eG6 (by decide)
    have h95 := h95.keep h80 eG6 (by decide)
    have h96 := h96.keep h80 eG6 (by decide)
    have h97 := h97.keep h80 eG6 (by decide)
    have h98 := h98.keep h80 eG6 (by decide)
    have h99 := h99.keep h80 eG6 (by decide)
    have h100 := h100.keep h80 eG6 (by decide)
    have h101 := h101.keep h80 eG6 (by decide)
    have h90 := h90.keep h80 eG6 (by decide)
    have h89 := h89.keep h80 eG6 (by decide)
    have h105 := h105.keep h80 eG6 (by decide)
    have h106 := h106.keep h80 eG6 (by decide)
    have h107 := h107.keep h80 eG6 (by decide)
    have h108 := h108.keep h80 eG6 (by decide)
    have h109 := h109.keep h80 eG6 (by decide)
    have h102 := h102.keep h80 eG6 (by decide)
    have h103 := h103.keep h80 eG6 (by decide)
    have h104 := h104.keep h80 eG6 (by decide)
    have hlen := (z_len eG6).trans hlen
    have hsl := (z_sl h80 eG6 rfl).trans hsl
    have hfr := hfr.wr h80 eG6 (by decide)
    have h80 := h80.kept eG6
    change ab_W _ _ _ (List.set G5 80 (ab_ob 12 (mof m_thrown m_taped m_length m_out m_wide m_gathered m_sets m_ranges (m_nodes + 1 + 1) m_at (OF m_depth) m_fault m_place m_numbered (m_depth - 1) m_value m_isNot m_least0 m_most0 m_slot m_work m_got m_rowMany m_charAt m_charWide m_trail m_isMatch m_matchGroups m_allFrom m_allBefore m_founds m_pieces m_writtenMany m_templateWide m_tooMuch))) 55 [some (vR 80), some (vz (m_nodes + 1)), some (vz (ON m_depth)), none] [] _
    rw [← eG6]
    refine ab_aload_n d_MO_closeGroup_55 rfl ?_
    refine zz_bipush d_MO_closeGroup_56 (by decide) ?_
    refine ab_iload_n d_MO_closeGroup_58 rfl ?_
    refine ab_aload_n d_MO_closeGroup_59 rfl ?_
    refine ab_getf (fs := mof m_thrown m_taped m_length m_out m_wide m_gathered m_sets m_ranges (m_nodes + 1 + 1) m_at (OF m_depth) m_fault m_place m_numbered (m_depth - 1) m_value m_isNot m_least0 m_most0 m_slot m_work m_got m_rowMany m_charAt m_charWide m_trail m_isMatch m_matchGroups m_allFrom m_allBefore m_founds m_pieces m_writtenMany m_templateWide m_tooMuch) f_MO_68 d_MO_closeGroup_60 h80.2.2 rfl ?_
    refine ab_iload_n d_MO_closeGroup_63 rfl ?_
    refine zz_lald d_MO_closeGroup_64 h100 (by omega) ?_
    have hq7 := jz (m_nodes + 1) (by omega) (by omega)
    refine ab_iload_n d_MO_closeGroup_65 rfl ?_
    refine zz_if_le (tgt := 75) d_MO_closeGroup_66 (by decide) (by omega) (fun c8 => ?_) (fun c8 => ?_)
    · refine zz_lconst d_MO_closeGroup_75 ?_
      change ab_W _ _ _ G6 76 [some (vR 80), some (vz (m_nodes + 1)), some (vz (ON m_depth)), none] [vj 0, vj (Z (m_nodes + 1)), vz (ON m_depth), vz 6, vR 80] _
      refine zz_ladd d_MO_closeGroup_76 ?_
      refine ab_callS (d' := d - 1) (as := [vj ((Z (m_nodes + 1)) + 0)]) (st := [vz (ON m_depth), vz 6, vR 80]) (z_MO_atMost (o := o) (x := ((Z (m_nodes + 1)) + 0)) (by omega)) (fun oc G2 h => by rcases h with ⟨h, _⟩ | ⟨h, _⟩ <;> exact ⟨_, h⟩) (by omega) m_MO_atMost ml_MO_288 st_MO_atMost (Nat.le_of_ble_eq_true rfl) d_MO_closeGroup_77 rfl ?_
      intro v G9 hq
      rcases hq with ⟨hv, hGe, hq10⟩ | ⟨hv, hGe, hq11⟩
      · cases hv
        rw [hGe]
        change ab_W _ _ _ G6 80 [some (vR 80), some (vz (m_nodes + 1)), some (vz (ON m_depth)), none] [vj ((Z (m_nodes + 1)) + 0), vz (ON m_depth), vz 6, vR 80] _
        refine ab_callV (d' := d - 1) (as := [vz 6, vz (ON m_depth), vj ((Z (m_nodes + 1)) + 0)]) (st := []) (r := _) (z_MO_node (o := o) (m_thrown := m_thrown) (m_taped := m_taped) (m_length := m_length) (m_out := m_out) (m_wide := m_wide) (m_gathered := m_gathered) (m_sets := m_sets) (m_ranges := m_ranges) (m_nodes := (m_nodes + 1 + 1)) (m_at := m_at) (m_flags := (OF m_depth)) (m_fault := m_fault) (m_place := m_place) (m_numbered := m_numbered) (m_depth := (m_depth - 1)) (m_value := m_value) (m_isNot := m_isNot) (m_least0 := m_least0) (m_most0 := m_most0) (m_slot := m_slot) (m_work := m_work) (m_got := m_got) (m_rowMany := m_rowMany) (m_charAt := m_charAt) (m_charWide := m_charWide) (m_trail := m_trail) (m_isMatch := m_isMatch) (m_matchGroups := m_matchGroups) (m_allFrom := m_allFrom) (m_allBefore := m_allBefore) (m_founds := m_founds) (m_pieces := m_pieces) (m_writtenMany := m_writtenMany) (m_templateWide := m_templateWide) (m_tooMuch := m_tooMuch) (K := K) (O := O) (Fi := Fi) (Be := Be) (Z := Z) (k := 6) (w := (ON m_depth)) (zs := ((Z (m_nodes + 1)) + 0)) h80 h94 h95 h96 h97 h100 (by omega) (by omega)) (fun oc G2 h => by rcases h with ⟨h, _⟩ <;> exact ⟨_, h⟩) (by omega) m_MO_node ml_MO_269 im_MO_node se_MO_node c_MO h80.2.2 (Nat.le_of_ble_eq_true rfl) d_MO_closeGroup_80 rfl ?_
        intro v G12 hq
        rcases hq with ⟨hv, hfk, hlk, hsk, hN80, hN94, hN95, hN96, hN97, hN100⟩
        cases hv
        have h84 := hfk.get h84 (by decide)
        have h87 := hfk.get h87 (by decide)
        have h88 := hfk.get h88 (by decide)
        have h93 := hfk.get h93 (by decide)
        have h81 := hfk.get h81 (by decide)
        have h82 := hfk.get h82 (by decide)
        have h91 := hfk.get h91 (by decide)
        have h92 := hfk.get h92 (by decide)
        have h110 := hfk.get h110 (by decide)
        have h111 := hfk.get h111 (by decide)
        have h98 := hfk.get h98 (by decide)
        have h99 := hfk.get h99 (by decide)
        have h101 := hfk.get h101 (by decide)
        have h90 := hfk.get h90 (by decide)
        have h89 := hfk.get h89 (by decide)
        have h105 := hfk.get h105 (by decide)
        have h106 := hfk.get h106 (by decide)
        have h107 := hfk.get h107 (by decide)
        have h108 := hfk.get h108 (by decide)
        have h109 := hfk.get h109 (by decide)
        have h102 := hfk.get h102 (by decide)
        have h103 := hfk.get h103 (by decide)
        have h104 := hfk.get h104 (by decide)
        have hfr := hfr.tr hfk (by decide)
        have hlen := hlk.trans hlen
        have hsl := hsk.trans hsl
        have h80 := hN80
        have h94 := hN94
        have h95 := hN95
        have h96 := hN96
        have h97 := hN97
        have h100 := hN100
        change ab_W _ _ _ G12 83 [some (vR 80), some (vz (m_nodes + 1)), some (vz (ON m_depth)), none] [vz (m_nodes + 1 + 1)] _
        refine ab_istore_n d_MO_closeGroup_83 (Nat.le_of_ble_eq_true rfl) (Nat.le_of_ble_eq_true rfl) rfl ?_
        change ab_W _ _ _ G12 84 [some (vR 80), some (vz (m_nodes + 1)), some (vz (ON m_depth)), some (vz (m_nodes + 1 + 1))] [] _
        refine ab_aload_n d_MO_closeGroup_84 rfl ?_
        refine ab_getf (fs := mof m_thrown m_taped m_length m_out m_wide m_gathered m_sets m_ranges ((m_nodes + 1 + 1) + 1) m_at (OF m_depth) m_fault m_place m_numbered (m_depth - 1) m_value m_isNot m_least0 m_most0 m_slot m_work m_got m_rowMany m_charAt m_charWide m_trail m_isMatch m_matchGroups m_allFrom m_allBefore m_founds m_pieces m_writtenMany m_templateWide m_tooMuch) f_MO_56 d_MO_closeGroup_85 h80.2.2 rfl ?_
        refine ab_iload_n d_MO_closeGroup_88 rfl ?_
        refine ab_iload_n d_MO_closeGroup_89 rfl ?_
        refine zz_iast d_MO_closeGroup_90 h96 (by omega) (h96.2.1 (by decide)) ?_
        obtain ⟨G13, eG13⟩ : ∃ z : ab_G, z = List.set G12 96 (za 4200 (zu (zu Fi (m_nodes + 1 + 1) (-1)) (m_nodes + 1 + 1) (m_nodes + 1))) := ⟨_, rfl⟩
        have h80 := h80.keep h96 eG13 (by decide)
        have h84 := h84.keep h96 eG13 (by decide)
        have h87 := h87.keep h96 eG13 (by decide)
        have h88 := h88.keep h96 eG13 (by decide)
        have h93 := h93.keep h96 eG13 (by decide)
        have h81 := h81.keep h96 eG13 (by decide)
        have h82 := h82.keep h96 eG13 (by decide)
        have h91 := h91.keep h96 eG13 (by decide)
        have h92 := h92.keep h96 eG13 (by decide)
        have h110 := h110.keep h96 eG13 (by decide)
        have h111 := h111.keep h96 eG13 (by decide)
        have h94 := h94.keep h96 eG13 (by decide)
        have h95 := h95.keep h96 eG13 (by decide)
        have h97 := h97.keep h96 eG13 (by decide)
        have h98 := h98.keep h96 eG13 (by decide)
        have h99 := h99.keep h96 eG13 (by decide)
        have h100 := h100.keep h96 eG13 (by decide)
        have h101 := h101.keep h96 eG13 (by decide)
        have h90 := h90.keep h96 eG13 (by decide)
        have h89 := h89.keep h96 eG13 (by decide)
        have h105 := h105.keep h96 eG13 (by decide)
        have h106 := h106.keep h96 eG13 (by decide)
        have h107 := h107.keep h96 eG13 (by decide)
        have h108 := h108.keep h96 eG13 (by decide)
        have h109 := h109.keep h96 eG13 (by decide)
        have h102 := h102.keep h96 eG13 (by decide)
        have h103 := h103.keep h96 eG13 (by decide)
        have h104 := h104.keep h96 eG13 (by decide)
        have hlen := (z_len eG13).trans hlen
        have hsl := (z_sl h96 eG13 rfl).trans hsl
        have hfr := hfr.wr h96 eG13 (by decide)
        have h96 := h96.kept eG13
        change ab_W _ _ _ (List.set G12 96 (za 4200 (zu (zu Fi (m_nodes + 1 + 1) (-1)) (m_nodes + 1 + 1) (m_nodes + 1)))) 91 [some (vR 80), some (vz (m_nodes + 1)), some (vz (ON m_depth)), some (vz (m_nodes + 1 + 1))] [] _
        rw [← eG13]
        refine ab_aload_n d_MO_closeGroup_91 rfl ?_
        refine ab_iload_n d_MO_closeGroup_92 rfl ?_
        refine zz_iconst d_MO_closeGroup_93 ?_
        have ptrI_0 : trI o G13 0 ((m_nodes + 1 + 1) + 1) m_sets ((m_depth - 1) + 1) (m_nodes + 1 + 1) (31 - m_depth) 6 := ⟨(zu K (m_nodes + 1 + 1) 6), (zu O (m_nodes + 1 + 1) (ON m_depth)), (zu (zu Fi (m_nodes + 1 + 1) (-1)) (m_nodes + 1 + 1) (m_nodes + 1)), (zu Be (m_nodes + 1 + 1) (-1)), Le, Mo, (zu Z (m_nodes + 1 + 1) ((Z (m_nodes + 1)) + 0)), LZ, SM, SA, QF, QL, AF, AL, SD, OA, OF, ON, h94, h95, h96, h97, h98, h99, h100, h101, h90, h89, h105, h106, h107, h108, h109, h102, h103, h104, (rgs_zu jk (by omega)), (rgs_zu jo (by omega)), (rgs_zu (rgs_zu jfi (by omega)) (by omega)), (rgs_zu jbe (by omega)), jle, jmo, (rgs_zu jz (by omega)), jlz, jsm, jsa, jqf, jql, jaf, jal, jsd, joa, jof, jon, (by rw [zu_zu, show m_depth - 1 + 1 = m_depth by omega]; exact rtr_group jt (by omega) (ck5 rfl) (by omega) (by omega) (by omega) (by rw [if_neg (by omega)]; omega)), (by omega), (fun h => absurd h (by decide)), (fun h => absurd h (by decide)), (fun h => absurd h (by decide)), (fun h => absurd h (by decide)), (fun _ => by rw [zu_self]; decide), jss⟩
        refine ab_callV (d' := d - 1) (as := [vz (m_nodes + 1 + 1), vz 1]) (st := []) (r := _) (z_MO_part (o := o) (m_thrown := m_thrown) (m_taped := m_taped) (m_length := m_length) (m_out := m_out) (m_wide := m_wide) (m_gathered := m_gathered) (m_sets := m_sets) (m_ranges := m_ranges) (m_nodes := ((m_nodes + 1 + 1) + 1)) (m_at := m_at) (m_flags := (OF m_depth)) (m_fault := m_fault) (m_place := m_place) (m_numbered := m_numbered) (m_depth := (m_depth - 1)) (m_value := m_value) (m_isNot := m_isNot) (m_least0 := m_least0) (m_most0 := m_most0) (m_slot := m_slot) (m_work := m_work) (m_got := m_got) (m_rowMany := m_rowMany) (m_charAt := m_charAt) (m_charWide := m_charWide) (m_trail := m_trail) (m_isMatch := m_isMatch) (m_matchGroups := m_matchGroups) (m_allFrom := m_allFrom) (m_allBefore := m_allBefore) (m_founds := m_founds) (m_pieces := m_pieces) (m_writtenMany := m_writtenMany) (m_templateWide := m_templateWide) (m_tooMuch := m_tooMuch) (x := (m_nodes + 1 + 1)) (s := 1) (dh := (31 - m_depth)) h80 ptrI_0 (by omega) (by omega) (by omega) (by omega)) (fun oc G2 h => by rcases h with ⟨h, _⟩ <;> exact ⟨_, h⟩) (by omega) m_MO_part ml_MO_375 im_MO_part se_MO_part c_MO h80.2.2 (Nat.le_of_ble_eq_true rfl) d_MO_closeGroup_94 rfl ?_
        intro v G14 hq
        rcases hq with ⟨hv, hfk, hlk, hsk, pNtrI_0⟩
        cases hv
        have h80 := hfk.get h80 (by decide)
        have h84 := hfk.get h84 (by decide)
        have h87 := hfk.get h87 (by decide)
        have h88 := hfk.get h88 (by decide)
        have h93 := hfk.get h93 (by decide)
        have h81 := hfk.get h81 (by decide)
        have h82 := hfk.get h82 (by decide)
        have h91 := hfk.get h91 (by decide)
        have h92 := hfk.get h92 (by decide)
        have h110 := hfk.get h110 (by decide)
        have h111 := hfk.get h111 (by decide)
        have ptrI_0 := pNtrI_0
        have hfr := hfr.tr hfk (by decide)
        have hlen := hlk.trans hlen
        have hsl := hsk.trans hsl
        change ab_W _ _ _ G14 97 [some (vR 80), some (vz (m_nodes + 1)), some (vz (ON m_depth)), some (vz (m_nodes + 1 + 1))] [] _
        refine ab_aload_n d_MO_closeGroup_97 rfl ?_
        refine ab_dup d_MO_closeGroup_98 rfl ?_
        refine ab_getf (fs := mof m_thrown m_taped m_length m_out m_wide m_gathered m_sets m_ranges ((m_nodes + 1 + 1) + 1) m_at (OF m_depth) m_fault m_place m_numbered (m_depth - 1) m_value m_isNot m_least0 m_most0 m_slot m_work m_got m_rowMany m_charAt m_charWide m_trail m_isMatch m_matchGroups m_allFrom m_allBefore m_founds m_pieces m_writtenMany m_templateWide m_tooMuch) f_MO_279 d_MO_closeGroup_99 h80.2.2 rfl ?_
        refine zz_iconst d_MO_closeGroup_102 ?_
        refine zz_iadd d_MO_closeGroup_103 ?_
        refine ab_putf (fs := mof m_thrown m_taped m_length m_out m_wide m_gathered m_sets m_ranges ((m_nodes + 1 + 1) + 1) m_at (OF m_depth) m_fault m_place m_numbered (m_depth - 1) m_value m_isNot m_least0 m_most0 m_slot m_work m_got m_rowMany m_charAt m_charWide m_trail m_isMatch m_matchGroups m_allFrom m_allBefore m_founds m_pieces m_writtenMany m_templateWide m_tooMuch) f_MO_279 (Or.inl rfl) d_MO_closeGroup_104 h80.2.2 (Nat.le_of_ble_eq_true rfl) (fun _ => ⟨rfl, rfl⟩) (h80.2.1 (by decide)) ?_
        obtain ⟨G15, eG15⟩ : ∃ z : ab_G, z = List.set G14 80 (ab_ob 12 (mof m_thrown m_taped m_length m_out m_wide m_gathered m_sets m_ranges ((m_nodes + 1 + 1) + 1) (m_at + 1) (OF m_depth) m_fault m_place m_numbered (m_depth - 1) m_value m_isNot m_least0 m_most0 m_slot m_work m_got m_rowMany m_charAt m_charWide m_trail m_isMatch m_matchGroups m_allFrom m_allBefore m_founds m_pieces m_writtenMany m_templateWide m_tooMuch)) := ⟨_, rfl⟩
        have h84 := h84.keep h80 eG15 (by decide)
        have h87 := h87.keep h80 eG15 (by decide)
        have h88 := h88.keep h80 eG15 (by decide)
        have h93 := h93.keep h80 eG15 (by decide)
        have h81 := h81.keep h80 eG15 (by decide)
        have h82 := h82.keep h80 eG15 (by decide)
        have h91 := h91.keep h80 eG15 (by decide)
        have h92 := h92.keep h80 eG15 (by decide)
        have h110 := h110.keep h80 eG15 (by decide)
        have h111 := h111.keep h80 eG15 (by decide)
        have hst := (fx.rf (o := o) (S := [280]) (G := G14)).wr h80 eG15 (List.mem_singleton.mpr rfl)
        have ptrI_0 := trI.fr hst ptrI_0 (by decide) (by decide) (by decide) (by decide) (by decide) (by decide) (by decide) (by decide) (by decide) (by decide) (by decide) (by decide) (by decide) (by decide) (by decide) (by decide) (by decide) (by decide)
        have hlen := (z_len eG15).trans hlen
        have hsl := (z_sl h80 eG15 rfl).trans hsl
        have hfr := hfr.wr h80 eG15 (by decide)
        have h80 := h80.kept eG15
        change ab_W _ _ _ (List.set G14 80 (ab_ob 12 (mof m_thrown m_taped m_length m_out m_wide m_gathered m_sets m_ranges ((m_nodes + 1 + 1) + 1) (m_at + 1) (OF m_depth) m_fault m_place m_numbered (m_depth - 1) m_value m_isNot m_least0 m_most0 m_slot m_work m_got m_rowMany m_charAt m_charWide m_trail m_isMatch m_matchGroups m_allFrom m_allBefore m_founds m_pieces m_writtenMany m_templateWide m_tooMuch))) 107 [some (vR 80), some (vz (m_nodes + 1)), some (vz (ON m_depth)), some (vz (m_nodes + 1 + 1))] [] _
        rw [← eG15]
        refine ab_vret rfl d_MO_closeGroup_107 ?_
        rw [hQ]; exact (Or.inl ⟨_, _, _, _, _, _, _, _, _, _, _, _, _, _, _, _, _, _, _, _, _, _, rfl, hfr, hlen, hsl, h80, h87, h88, h93, h91, h92, h110, h111, ptrI_0, (by omega), (by first | exact jmk | exact rgs_w jmk (by omega)), (by first | exact jrl | exact rgs_w jrl (by omega)), (by first | exact jrh | exact rgs_w jrh (by omega)), (by first | exact jns | exact rgs_w jns (by omega)), (by first | exact jnm | exact rgs_w jnm (by omega))⟩)
      · cases hv
        rw [hGe]
        change ab_W _ _ _ G6 80 [some (vR 80), some (vz (m_nodes + 1)), some (vz (ON m_depth)), none] [vj 1000000000000, vz (ON m_depth), vz 6, vR 80] _
        refine ab_callV (d' := d - 1) (as := [vz 6, vz (ON m_depth), vj 1000000000000]) (st := []) (r := _) (z_MO_node (o := o) (m_thrown := m_thrown) (m_taped := m_taped) (m_length := m_length) (m_out := m_out) (m_wide := m_wide) (m_gathered := m_gathered) (m_sets := m_sets) (m_ranges := m_ranges) (m_nodes := (m_nodes + 1 + 1)) (m_at := m_at) (m_flags := (OF m_depth)) (m_fault := m_fault) (m_place := m_place) (m_numbered := m_numbered) (m_depth := (m_depth - 1)) (m_value := m_value) (m_isNot := m_isNot) (m_least0 := m_least0) (m_most0 := m_most0) (m_slot := m_slot) (m_work := m_work) (m_got := m_got) (m_rowMany := m_rowMany) (m_charAt := m_charAt) (m_charWide := m_charWide) (m_trail := m_trail) (m_isMatch := m_isMatch) (m_matchGroups := m_matchGroups) (m_allFrom := m_allFrom) (m_allBefore := m_allBefore) (m_founds := m_founds) (m_pieces := m_pieces) (m_writtenMany := m_writtenMany) (m_templateWide := m_templateWide) (m_tooMuch := m_tooMuch) (K := K) (O := O) (Fi := Fi) (Be := Be) (Z := Z) (k := 6) (w := (ON m_depth)) (zs := 1000000000000) h80 h94 h95 h96 h97 h100 (by omega) (by omega)) (fun oc G2 h => by rcases h with ⟨h, _⟩ <;> exact ⟨_, h⟩) (by omega) m_MO_node ml_MO_269 im_MO_node se_MO_node c_MO h80.2.2 (Nat.le_of_ble_eq_true rfl) d_MO_closeGroup_80 rfl ?_
        intro v G16 hq
        rcases hq with ⟨hv, hfk, hlk, hsk, hN80, hN94, hN95, hN96, hN97, hN100⟩
        cases hv
        have h84 := hfk.get h84 (by decide)
        have h87 := hfk.get h87 (by decide)
        have h88 := hfk.get h88 (by decide)
        have h93 := hfk.get h93 (by decide)
        have h81 := hfk.get h81 (by decide)
        have h82 := hfk.get h82 (by decide)
        have h91 := hfk.get h91 (by decide)
        have h92 := hfk.get h92 (by decide)
        have h110 := hfk.get h110 (by decide)
        have h111 := hfk.get h111 (by decide)
        have h98 := hfk.get h98 (by decide)
        have h99 := hfk.get h99 (by decide)
        have h101 := hfk.get h101 (by decide)
        have h90 := hfk.get h90 (by decide)
        have h89 := hfk.get h89 (by decide)
        have h105 := hfk.get h105 (by decide)
        have h106 := hfk.get h106 (by decide)
        have h107 := hfk.get h107 (by decide)
        have h108 := hfk.get h108 (by decide)
        have h109 := hfk.get h109 (by decide)
        have h102 := hfk.get h102 (by decide)
        have h103 := hfk.get h103 (by decide)
        have h104 := hfk.get h104 (by decide)
        have hfr := hfr.tr hfk (by decide)
        have hlen := hlk.trans hlen
        have hsl := hsk.trans hsl
        have h80 := hN80
        have h94 := hN94
        have h95 := hN95
        have h96 := hN96
        have h97 := hN97
        have h100 := hN100
        change ab_W _ _ _ G16 83 [some (vR 80), some (vz (m_nodes + 1)), some (vz (ON m_depth)), none] [vz (m_nodes + 1 + 1)] _
        refine ab_istore_n d_MO_closeGroup_83 (Nat.le_of_ble_eq_true rfl) (Nat.le_of_ble_eq_true rfl) rfl ?_
        change ab_W _ _ _ G16 84 [some (vR 80), some (vz (m_nodes + 1)), some (vz (ON m_depth)), some (vz (m_nodes + 1 + 1))] [] _
        refine ab_aload_n d_MO_closeGroup_84 rfl ?_
        refine ab_getf (fs := mof m_thrown m_taped m_length m_out m_wide m_gathered m_sets m_ranges ((m_nodes + 1 + 1) + 1) m_at (OF m_depth) m_fault m_place m_numbered (m_depth - 1) m_value m_isNot m_least0 m_most0 m_slot m_work m_got m_rowMany m_charAt m_charWide m_trail m_isMatch m_matchGroups m_allFrom m_allBefore m_founds m_pieces m_writtenMany m_templateWide m_tooMuch) f_MO_56 d_MO_closeGroup_85 h80.2.2 rfl ?_
        refine ab_iload_n d_MO_closeGroup_88 rfl ?_
        refine ab_iload_n d_MO_closeGroup_89 rfl ?_
        refine zz_iast d_MO_closeGroup_90 h96 (by omega) (h96.2.1 (by decide)) ?_
        obtain ⟨G17, eG17⟩ : ∃ z : ab_G, z = List.set G16 96 (za 4200 (zu (zu Fi (m_nodes + 1 + 1) (-1)) (m_nodes + 1 + 1) (m_nodes + 1))) := ⟨_, rfl⟩
        have h80 := h80.keep h96 eG17 (by decide)
        have h84 := h84.keep h96 eG17 (by decide)
        have h87 := h87.keep h96 eG17 (by decide)
        have h88 := h88.keep h96 eG17 (by decide)
        have h93 := h93.keep h96 eG17 (by decide)
        have h81 := h81.keep h96 eG17 (by decide)
        have h82 := h82.keep h96 eG17 (by decide)
        have h91 := h91.keep h96 eG17 (by decide)
        have h92 := h92.keep h96 eG17 (by decide)
        have h110 := h110.keep h96 eG17 (by decide)
        have h111 := h111.keep h96 eG17 (by decide)
        have h94 := h94.keep h96 eG17 (by decide)
        have h95 := h95.keep h96 eG17 (by decide)
        have h97 := h97.keep h96 eG17 (by decide)
        have h98 := h98.keep h96 eG17 (by decide)
        have h99 := h99.keep h96 eG17 (by decide)
        have h100 := h100.keep h96 eG17 (by decide)
        have h101 := h101.keep h96 eG17 (by decide)
        have h90 := h90.keep h96 eG17 (by decide)
        have h89 := h89.keep h96 eG17 (by decide)
        have h105 := h105.keep h96 eG17 (by decide)
        have h106 := h106.keep h96 eG17 (by decide)
        have h107 := h107.keep h96 eG17 (by decide)
        have h108 := h108.keep h96 eG17 (by decide)
        have h109 := h109.keep h96 eG17 (by decide)
        have h102 := h102.keep h96 eG17 (by decide)
        have h103 := h103.keep h96 eG17 (by decide)
        have h104 := h104.keep h96 eG17 (by decide)
        have hlen := (z_len eG17).trans hlen
        have hsl := (z_sl h96 eG17 rfl).trans hsl
        have hfr := hfr.wr h96 eG17 (by decide)
        have h96 := h96.kept eG17
        change ab_W _ _ _ (List.set G16 96 (za 4200 (zu (zu Fi (m_nodes + 1 + 1) (-1)) (m_nodes + 1 + 1) (m_nodes + 1)))) 91 [some (vR 80), some (vz (m_nodes + 1)), some (vz (ON m_depth)), some (vz (m_nodes + 1 + 1))] [] _
        rw [← eG17]
        refine ab_aload_n d_MO_closeGroup_91 rfl ?_
        refine ab_iload_n d_MO_closeGroup_92 rfl ?_
        refine zz_iconst d_MO_closeGroup_93 ?_
        have ptrI_0 : trI o G17 0 ((m_nodes + 1 + 1) + 1) m_sets ((m_depth - 1) + 1) (m_nodes + 1 + 1) (31 - m_depth) 6 := ⟨(zu K (m_nodes + 1 + 1) 6), (zu O (m_nodes + 1 + 1) (ON m_depth)), (zu (zu Fi (m_nodes + 1 + 1) (-1)) (m_nodes + 1 + 1) (m_nodes + 1)), (zu Be (m_nodes + 1 + 1) (-1)), Le, Mo, (zu Z (m_nodes + 1 + 1) 1000000000000), LZ, SM, SA, QF, QL, AF, AL, SD, OA, OF, ON, h94, h95, h96, h97, h98, h99, h100, h101, h90, h89, h105, h106, h107, h108, h109, h102, h103, h104, (rgs_zu jk (by omega)), (rgs_zu jo (by omega)), (rgs_zu (rgs_zu jfi (by omega)) (by omega)), (rgs_zu jbe (by omega)), jle, jmo, (rgs_zu jz (by omega)), jlz, jsm, jsa, jqf, jql, jaf, jal, jsd, joa, jof, jon, (by rw [zu_zu, show m_depth - 1 + 1 = m_depth by omega]; exact rtr_group jt (by omega) (ck5 rfl) (by omega) (by omega) (by omega) (by rw [if_neg (by omega)]; omega)), (by omega), (fun h => absurd h (by decide)), (fun h => absurd h (by decide)), (fun h => absurd h (by decide)), (fun h => absurd h (by decide)), (fun _ => by rw [zu_self]; decide), jss⟩
        refine ab_callV (d' := d - 1) (as := [vz (m_nodes + 1 + 1), vz 1]) (st := []) (r := _) (z_MO_part (o := o) (m_thrown := m_thrown) (m_taped := m_taped) (m_length := m_length) (m_out := m_out) (m_wide := m_wide) (m_gathered := m_gathered) (m_sets := m_sets) (m_ranges := m_ranges) (m_nodes := ((m_nodes + 1 + 1) + 1)) (m_at := m_at) (m_flags := (OF m_depth)) (m_fault := m_fault) (m_place := m_place) (m_numbered := m_numbered) (m_depth := (m_depth - 1)) (m_value := m_value) (m_isNot := m_isNot) (m_least0 := m_least0) (m_most0 := m_most0) (m_slot := m_slot) (m_work := m_work) (m_got := m_got) (m_rowMany := m_rowMany) (m_charAt := m_charAt) (m_charWide := m_charWide) (m_trail := m_trail) (m_isMatch := m_isMatch) (m_matchGroups := m_matchGroups) (m_allFrom := m_allFrom) (m_allBefore := m_allBefore) (m_founds := m_founds) (m_pieces := m_pieces) (m_writtenMany := m_writtenMany) (m_templateWide := m_templateWide) (m_tooMuch := m_tooMuch) (x := (m_nodes + 1 + 1)) (s := 1) (dh := (31 - m_depth)) h80 ptrI_0 (by omega) (by omega) (by omega) (by omega)) (fun oc G2 h => by rcases h with ⟨h, _⟩ <;> exact ⟨_, h⟩) (by omega) m_MO_part ml_MO_375 im_MO_part se_MO_part c_MO h80.2.2 (Nat.le_of_ble_eq_true rfl) d_MO_closeGroup_94 rfl ?_
        intro v G18 hq
        rcases hq with ⟨hv, hfk, hlk, hsk, pNtrI_0⟩
        cases hv
        have h80 := hfk.get h80 (by decide)
        have h84 := hfk.get h84 (by decide)
        have h87 := hfk.get h87 (by decide)
        have h88 := hfk.get h88 (by decide)
        have h93 := hfk.get h93 (by decide)
        have h81 := hfk.get h81 (by decide)
        have h82 := hfk.get h82 (by decide)
        have h91 := hfk.get h91 (by decide)
        have h92 := hfk.get h92 (by decide)
        have h110 := hfk.get h110 (by decide)
        have h111 := hfk.get h111 (by decide)
        have ptrI_0 := pNtrI_0
        have hfr := hfr.tr hfk (by decide)
        have hlen := hlk.trans hlen
        have hsl := hsk.trans hsl
        change ab_W _ _ _ G18 97 [some (vR 80), some (vz (m_nodes + 1)), some (vz (ON m_depth)), some (vz (m_nodes + 1 + 1))] [] _
        refine ab_aload_n d_MO_closeGroup_97 rfl ?_
        refine ab_dup d_MO_closeGroup_98 rfl ?_
        refine ab_getf (fs := mof m_thrown m_taped m_length m_out m_wide m_gathered m_sets m_ranges ((m_nodes + 1 + 1) + 1) m_at (OF m_depth) m_fault m_place m_numbered (m_depth - 1) m_value m_isNot m_least0 m_most0 m_slot m_work m_got m_rowMany m_charAt m_charWide m_trail m_isMatch m_matchGroups m_allFrom m_allBefore m_founds m_pieces m_writtenMany m_templateWide m_tooMuch) f_MO_279 d_MO_closeGroup_99 h80.2.2 rfl ?_
        refine zz_iconst d_MO_closeGroup_102 ?_
        refine zz_iadd d_MO_closeGroup_103 ?_
        refine ab_putf (fs := mof m_thrown m_taped m_length m_out m_wide m_gathered m_sets m_ranges ((m_nodes + 1 + 1) + 1) m_at (OF m_depth) m_fault m_place m_numbered (m_depth - 1) m_value m_isNot m_least0 m_most0 m_slot m_work m_got m_rowMany m_charAt m_charWide m_trail m_isMatch m_matchGroups m_allFrom m_allBefore m_founds m_pieces m_writtenMany m_templateWide m_tooMuch) f_MO_279 (Or.inl rfl) d_MO_closeGroup_104 h80.2.2 (Nat.le_of_ble_eq_true rfl) (fun _ => ⟨rfl, rfl⟩) (h80.2.1 (by decide)) ?_
        obtain ⟨G19, eG19⟩ : ∃ z : ab_G, z = List.set G18 80 (ab_ob 12 (mof m_thrown m_taped m_length m_out m_wide m_gathered m_sets m_ranges ((m_nodes + 1 + 1) + 1) (m_at + 1) (OF m_depth) m_fault m_place m_numbered (m_depth - 1) m_value m_isNot m_least0 m_most0 m_slot m_work m_got m_rowMany m_charAt m_charWide m_trail m_isMatch m_matchGroups m_allFrom m_allBefore m_founds m_pieces m_writtenMany m_templateWide m_tooMuch)) := ⟨_, rfl⟩
        have h84 := h84.keep h80 eG19 (by decide)
        have h87 := h87.keep h80 eG19 (by decide)
        have h88 := h88.keep h80 eG19 (by decide)
        have h93 := h93.keep h80 eG19 (by decide)
        have h81 := h81.keep h80 eG19 (by decide)
        have h82 := h82.keep h80 eG19 (by decide)
        have h91 := h91.keep h80 eG19 (by decide)
        have h92 := h92.keep h80 eG19 (by decide)
        have h110 := h110.keep h80 eG19 (by decide)
        have h111 := h111.keep h80 eG19 (by decide)
        have hst := (fx.rf (o := o) (S := [280]) (G := G18)).wr h80 eG19 (List.mem_singleton.mpr rfl)
        have ptrI_0 := trI.fr hst ptrI_0 (by decide) (by decide) (by decide) (by decide) (by decide) (by decide) (by decide) (by decide) (by decide) (by decide) (by decide) (by decide) (by decide) (by decide) (by decide) (by decide) (by decide) (by decide)
        have hlen := (z_len eG19).trans hlen
        have hsl := (z_sl h80 eG19 rfl).trans hsl
        have hfr := hfr.wr h80 eG19 (by decide)
        have h80 := h80.kept eG19
        change ab_W _ _ _ (List.set G18 80 (ab_ob 12 (mof m_thrown m_taped m_length m_out m_wide m_gathered m_sets m_ranges ((m_nodes + 1 + 1) + 1) (m_at + 1) (OF m_depth) m_fault m_place m_numbered (m_depth - 1) m_value m_isNot m_least0 m_most0 m_slot m_work m_got m_rowMany m_charAt m_charWide m_trail m_isMatch m_matchGroups m_allFrom m_allBefore m_founds m_pieces m_writtenMany m_templateWide m_tooMuch))) 107 [some (vR 80), some (vz (m_nodes + 1)), some (vz (ON m_depth)), some (vz (m_nodes + 1 + 1))] [] _
        rw [← eG19]
        refine ab_vret rfl d_MO_closeGroup_107 ?_
        rw [hQ]; exact (Or.inl ⟨_, _, _, _, _, _, _, _, _, _, _, _, _, _, _, _, _, _, _, _, _, _, rfl, hfr, hlen, hsl, h80, h87, h88, h93, h91, h92, h110, h111, ptrI_0, (by omega), (by first | exact jmk | exact rgs_w jmk (by omega)), (by first | exact jrl | exact rgs_w jrl (by omega)), (by first | exact jrh | exact rgs_w jrh (by omega)), (by first | exact jns | exact rgs_w jns (by omega)), (by first | exact jnm | exact rgs_w jnm (by omega))⟩)
    · refine zz_ldc2 2 d_MO_closeGroup_69 cn_MO_401 ?_
      refine ab_goto (tgt := 76) d_MO_closeGroup_72 (by decide) ?_
      refine zz_ladd d_MO_closeGroup_76 ?_
      refine ab_callS (d' := d - 1) (as := [vj ((Z (m_nodes + 1)) + 2)]) (st := [vz (ON m_depth), vz 6, vR 80]) (z_MO_atMost (o := o) (x := ((Z (m_nodes + 1)) + 2)) (by omega)) (fun oc G2 h => by rcases h with ⟨h, _⟩ | ⟨h, _⟩ <;> exact ⟨_, h⟩) (by omega) m_MO_atMost ml_MO_288 st_MO_atMost (Nat.le_of_ble_eq_true rfl) d_MO_closeGroup_77 rfl ?_
      intro v G20 hq
      rcases hq with ⟨hv, hGe, hq21⟩ | ⟨hv, hGe, hq22⟩
      · cases hv
        rw [hGe]
        change ab_W _ _ _ G6 80 [some (vR 80), some (vz (m_nodes + 1)), some (vz (ON m_depth)), none] [vj ((Z (m_nodes + 1)) + 2), vz (ON m_depth), vz 6, vR 80] _
        refine ab_callV (d' := d - 1) (as := [vz 6, vz (ON m_depth), vj ((Z (m_nodes + 1)) + 2)]) (st := []) (r := _) (z_MO_node (o := o) (m_thrown := m_thrown) (m_taped := m_taped) (m_length := m_length) (m_out := m_out) (m_wide := m_wide) (m_gathered := m_gathered) (m_sets := m_sets) (m_ranges := m_ranges) (m_nodes := (m_nodes + 1 + 1)) (m_at := m_at) (m_flags := (OF m_depth)) (m_fault := m_fault) (m_place := m_place) (m_numbered := m_numbered) (m_depth := (m_depth - 1)) (m_value := m_value) (m_isNot := m_isNot) (m_least0 := m_least0) (m_most0 := m_most0) (m_slot := m_slot) (m_work := m_work) (m_got := m_got) (m_rowMany := m_rowMany) (m_charAt := m_charAt) (m_charWide := m_charWide) (m_trail := m_trail) (m_isMatch := m_isMatch) (m_matchGroups := m_matchGroups) (m_allFrom := m_allFrom) (m_allBefore := m_allBefore) (m_founds := m_founds) (m_pieces := m_pieces) (m_writtenMany := m_writtenMany) (m_templateWide := m_templateWide) (m_tooMuch := m_tooMuch) (K := K) (O := O) (Fi := Fi) (Be := Be) (Z := Z) (k := 6) (w := (ON m_depth)) (zs := ((Z (m_nodes + 1)) + 2)) h80 h94 h95 h96 h97 h100 (by omega) (by omega)) (fun oc G2 h => by rcases h with ⟨h, _⟩ <;> exact ⟨_, h⟩) (by omega) m_MO_node ml_MO_269 im_MO_node se_MO_node c_MO h80.2.2 (Nat.le_of_ble_eq_true rfl) d_MO_closeGroup_80 rfl ?_
        intro v G23 hq
        rcases hq with ⟨hv, hfk, hlk, hsk, hN80, hN94, hN95, hN96, hN97, hN100⟩
        cases hv
        have h84 := hfk.get h84 (by decide)
        have h87 := hfk.get h87 (by decide)
        have h88 := hfk.get h88 (by decide)
        have h93 := hfk.get h93 (by decide)
        have h81 := hfk.get h81 (by decide)
        have h82 := hfk.get h82 (by decide)
        have h91 := hfk.get h91 (by decide)
        have h92 := hfk.get h92 (by decide)
        have h110 := hfk.get h110 (by decide)
        have h111 := hfk.get h111 (by decide)
        have h98 := hfk.get h98 (by decide)
        have h99 := hfk.get h99 (by decide)
        have h101 := hfk.get h101 (by decide)
        have h90 := hfk.get h90 (by decide)
        have h89 := hfk.get h89 (by decide)
        have h105 := hfk.get h105 (by decide)
        have h106 := hfk.get h106 (by decide)
        have h107 := hfk.get h107 (by decide)
        have h108 := hfk.get h108 (by decide)
        have h109 := hfk.get h109 (by decide)
        have h102 := hfk.get h102 (by decide)
        have h103 := hfk.get h103 (by decide)
        have h104 := hfk.get h104 (by decide)
        have hfr := hfr.tr hfk (by decide)
        have hlen := hlk.trans hlen
        have hsl := hsk.trans hsl
        have h80 := hN80
        have h94 := hN94
        have h95 := hN95
        have h96 := hN96
        have h97 := hN97
        have h100 := hN100
        change ab_W _ _ _ G23 83 [some (vR 80), some (vz (m_nodes + 1)), some (vz (ON m_depth)), none] [vz (m_nodes + 1 + 1)] _
        refine ab_istore_n d_MO_closeGroup_83 (Nat.le_of_ble_eq_true rfl) (Nat.le_of_ble_eq_true rfl) rfl ?_
        change ab_W _ _ _ G23 84 [some (vR 80), some (vz (m_nodes + 1)), some (vz (ON m_depth)), some (vz (m_nodes + 1 + 1))] [] _
        refine ab_aload_n d_MO_closeGroup_84 rfl ?_
        refine ab_getf (fs := mof m_thrown m_taped m_length m_out m_wide m_gathered m_sets m_ranges ((m_nodes + 1 + 1) + 1) m_at (OF m_depth) m_fault m_place m_numbered (m_depth - 1) m_value m_isNot m_least0 m_most0 m_slot m_work m_got m_rowMany m_charAt m_charWide m_trail m_isMatch m_matchGroups m_allFrom m_allBefore m_founds m_pieces m_writtenMany m_templateWide m_tooMuch) f_MO_56 d_MO_closeGroup_85 h80.2.2 rfl ?_
        refine ab_iload_n d_MO_closeGroup_88 rfl ?_
        refine ab_iload_n d_MO_closeGroup_89 rfl ?_
        refine zz_iast d_MO_closeGroup_90 h96 (by omega) (h96.2.1 (by decide)) ?_
        obtain ⟨G24, eG24⟩ : ∃ z : ab_G, z = List.set G23 96 (za 4200 (zu (zu Fi (m_nodes + 1 + 1) (-1)) (m_nodes + 1 + 1) (m_nodes + 1))) := ⟨_, rfl⟩
        have h80 := h80.keep h96 eG24 (by decide)
        have h84 := h84.keep h96 eG24 (by decide)
        have h87 := h87.keep h96 eG24 (by decide)
        have h88 := h88.keep h96 eG24 (by decide)
        have h93 := h93.keep h96 eG24 (by decide)
        have h81 := h81.keep h96 eG24 (by decide)
        have h82 := h82.keep h96 eG24 (by decide)
        have h91 := h91.keep h96 eG24 (by decide)
        have h92 := h92.keep h96 eG24 (by decide)
        have h110 := h110.keep h96 eG24 (by decide)
        have h111 := h111.keep h96 eG24 (by decide)
        have h94 := h94.keep h96 eG24 (by decide)
        have h95 := h95.keep h96 eG24 (by decide)
        have h97 := h97.keep h96 eG24 (by decide)
        have h98 := h98.keep h96 eG24 (by decide)
        have h99 := h99.keep h96 eG24 (by decide)
        have h100 := h100.keep h96 eG24 (by decide)
        have h101 := h101.keep h96 eG24 (by decide)
        have h90 := h90.keep h96 eG24 (by decide)
        have h89 := h89.keep h96 eG24 (by decide)
        have h105 := h105.keep h96 eG24 (by decide)
        have h106 := h106.keep h96 eG24 (by decide)
        have h107 := h107.keep h96 eG24 (by decide)
        have h108 := h108.keep h96 eG24 (by decide)
        have h109 := h109.keep h96 eG24 (by decide)
        have h102 := h102.keep h96 eG24 (by decide)
        have h103 := h103.keep h96 eG24 (by decide)
        have h104 := h104.keep h96 eG24 (by decide)
        have hlen := (z_len eG24).trans hlen
        have hsl := (z_sl h96 eG24 rfl).trans hsl
        have hfr := hfr.wr h96 eG24 (by decide)
        have h96 := h96.kept eG24
        change ab_W _ _ _ (List.set G23 96 (za 4200 (zu (zu Fi (m_nodes + 1 + 1) (-1)) (m_nodes + 1 + 1) (m_nodes + 1)))) 91 [some (vR 80), some (vz (m_nodes + 1)), some (vz (ON m_depth)), some (vz (m_nodes + 1 + 1))] [] _
        rw [← eG24]
        refine ab_aload_n d_MO_closeGroup_91 rfl ?_
        refine ab_iload_n d_MO_closeGroup_92 rfl ?_
        refine zz_iconst d_MO_closeGroup_93 ?_
        have ptrI_0 : trI o G24 0 ((m_nodes + 1 + 1) + 1) m_sets ((m_depth - 1) + 1) (m_nodes + 1 + 1) (31 - m_depth) 6 := ⟨(zu K (m_nodes + 1 + 1) 6), (zu O (m_nodes + 1 + 1) (ON m_depth)), (zu (zu Fi (m_nodes + 1 + 1) (-1)) (m_nodes + 1 + 1) (m_nodes + 1)), (zu Be (m_nodes + 1 + 1) (-1)), Le, Mo, (zu Z (m_nodes + 1 + 1) ((Z (m_nodes + 1)) + 2)), LZ, SM, SA, QF, QL, AF, AL, SD, OA, OF, ON, h94, h95, h96, h97, h98, h99, h100, h101, h90, h89, h105, h106, h107, h108, h109, h102, h103, h104, (rgs_zu jk (by omega)), (rgs_zu jo (by omega)), (rgs_zu (rgs_zu jfi (by omega)) (by omega)), (rgs_zu jbe (by omega)), jle, jmo, (rgs_zu jz (by omega)), jlz, jsm, jsa, jqf, jql, jaf, jal, jsd, joa, jof, jon, (by rw [zu_zu, show m_depth - 1 + 1 = m_depth by omega]; exact rtr_group jt (by omega) (ck5 rfl) (by omega) (by omega) (by omega) (by rw [if_pos (by omega)]; omega)), (by omega), (fun h => absurd h (by decide)), (fun h => absurd h (by decide)), (fun h => absurd h (by decide)), (fun h => absurd h (by decide)), (fun _ => by rw [zu_self]; decide), jss⟩
        refine ab_callV (d' := d - 1) (as := [vz (m_nodes + 1 + 1), vz 1]) (st := []) (r := _) (z_MO_part (o := o) (m_thrown := m_thrown) (m_taped := m_taped) (m_length := m_length) (m_out := m_out) (m_wide := m_wide) (m_gathered := m_gathered) (m_sets := m_sets) (m_ranges := m_ranges) (m_nodes := ((m_nodes + 1 + 1) + 1)) (m_at := m_at) (m_flags := (OF m_depth)) (m_fault := m_fault) (m_place := m_place) (m_numbered := m_numbered) (m_depth := (m_depth - 1)) (m_value := m_value) (m_isNot := m_isNot) (m_least0 := m_least0) (m_most0 := m_most0) (m_slot := m_slot) (m_work := m_work) (m_got := m_got) (m_rowMany := m_rowMany) (m_charAt := m_charAt) (m_charWide := m_charWide) (m_trail := m_trail) (m_isMatch := m_isMatch) (m_matchGroups := m_matchGroups) (m_allFrom := m_allFrom) (m_allBefore := m_allBefore) (m_founds := m_founds) (m_pieces := m_pieces) (m_writtenMany := m_writtenMany) (m_templateWide := m_templateWide) (m_tooMuch := m_tooMuch) (x := (m_nodes + 1 + 1)) (s := 1) (dh := (31 - m_depth)) h80 ptrI_0 (by omega) (by omega) (by omega) (by omega)) (fun oc G2 h => by rcases h with ⟨h, _⟩ <;> exact ⟨_, h⟩) (by omega) m_MO_part ml_MO_375 im_MO_part se_MO_part c_MO h80.2.2 (Nat.le_of_ble_eq_true rfl) d_MO_closeGroup_94 rfl ?_
        intro v G25 hq
        rcases hq with ⟨hv, hfk, hlk, hsk, pNtrI_0⟩
        cases hv
        have h80 := hfk.get h80 (by decide)
        have h84 := hfk.get h84 (by decide)
        have h87 := hfk.get h87 (by decide)
        have h88 := hfk.get h88 (by decide)
        have h93 := hfk.get h93 (by decide)
        have h81 := hfk.get h81 (by decide)
        have h82 := hfk.get h82 (by decide)
        have h91 := hfk.get h91 (by decide)
        have h92 := hfk.get h92 (by decide)
        have h110 := hfk.get h110 (by decide)
        have h111 := hfk.get h111 (by decide)
        have ptrI_0 := pNtrI_0
        have hfr := hfr.tr hfk (by decide)
        have hlen := hlk.trans hlen
        have hsl := hsk.trans hsl
        change ab_W _ _ _ G25 97 [some (vR 80), some (vz (m_nodes + 1)), some (vz (ON m_depth)), some (vz (m_nodes + 1 + 1))] [] _
        refine ab_aload_n d_MO_closeGroup_97 rfl ?_
        refine ab_dup d_MO_closeGroup_98 rfl ?_
        refine ab_getf (fs := mof m_thrown m_taped m_length m_out m_wide m_gathered m_sets m_ranges ((m_nodes + 1 + 1) + 1) m_at (OF m_depth) m_fault m_place m_numbered (m_depth - 1) m_value m_isNot m_least0 m_most0 m_slot m_work m_got m_rowMany m_charAt m_charWide m_trail m_isMatch m_matchGroups m_allFrom m_allBefore m_founds m_pieces m_writtenMany m_templateWide m_tooMuch) f_MO_279 d_MO_closeGroup_99 h80.2.2 rfl ?_
        refine zz_iconst d_MO_closeGroup_102 ?_
        refine zz_iadd d_MO_closeGroup_103 ?_
        refine ab_putf (fs := mof m_thrown m_taped m_length m_out m_wide m_gathered m_sets m_ranges ((m_nodes + 1 + 1) + 1) m_at (OF m_depth) m_fault m_place m_numbered (m_depth - 1) m_value m_isNot m_least0 m_most0 m_slot m_work m_got m_rowMany m_charAt m_charWide m_trail m_isMatch m_matchGroups m_allFrom m_allBefore m_founds m_pieces m_writtenMany m_templateWide m_tooMuch) f_MO_279 (Or.inl rfl) d_MO_closeGroup_104 h80.2.2 (Nat.le_of_ble_eq_true rfl) (fun _ => ⟨rfl, rfl⟩) (h80.2.1 (by decide)) ?_
        obtain ⟨G26, eG26⟩ : ∃ z : ab_G, z = List.set G25 80 (ab_ob 12 (mof m_thrown m_taped m_length m_out m_wide m_gathered m_sets m_ranges ((m_nodes + 1 + 1) + 1) (m_at + 1) (OF m_depth) m_fault m_place m_numbered (m_depth - 1) m_value m_isNot m_least0 m_most0 m_slot m_work m_got m_rowMany m_charAt m_charWide m_trail m_isMatch m_matchGroups m_allFrom m_allBefore m_founds m_pieces m_writtenMany m_templateWide m_tooMuch)) := ⟨_, rfl⟩
        have h84 := h84.keep h80 eG26 (by decide)
        have h87 := h87.keep h80 eG26 (by decide)
        have h88 := h88.keep h80 eG26 (by decide)
        have h93 := h93.keep h80 eG26 (by decide)
        have h81 := h81.keep h80 eG26 (by decide)
        have h82 := h82.keep h80 eG26 (by decide)
        have h91 := h91.keep h80 eG26 (by decide)
        have h92 := h92.keep h80 eG26 (by decide)
        have h110 := h110.keep h80 eG26 (by decide)
        have h111 := h111.keep h80 eG26 (by decide)
        have hst := (fx.rf (o := o) (S := [280]) (G := G25)).wr h80 eG26 (List.mem_singleton.mpr rfl)
        have ptrI_0 := trI.fr hst ptrI_0 (by decide) (by decide) (by decide) (by decide) (by decide) (by decide) (by decide) (by decide) (by decide) (by decide) (by decide) (by decide) (by decide) (by decide) (by decide) (by decide) (by decide) (by decide)
        have hlen := (z_len eG26).trans hlen
        have hsl := (z_sl h80 eG26 rfl).trans hsl
        have hfr := hfr.wr h80 eG26 (by decide)
        have h80 := h80.kept eG26
        change ab_W _ _ _ (List.set G25 80 (ab_ob 12 (mof m_thrown m_taped m_length m_out m_wide m_gathered m_sets m_ranges ((m_nodes + 1 + 1) + 1) (m_at + 1) (OF m_depth) m_fault m_place m_numbered (m_depth - 1) m_value m_isNot m_least0 m_most0 m_slot m_work m_got m_rowMany m_charAt m_charWide m_trail m_isMatch m_matchGroups m_allFrom m_allBefore m_founds m_pieces m_writtenMany m_templateWide m_tooMuch))) 107 [some (vR 80), some (vz (m_nodes + 1)), some (vz (ON m_depth)), some (vz (m_nodes + 1 + 1))] [] _
        rw [← eG26]
        refine ab_vret rfl d_MO_closeGroup_107 ?_
        rw [hQ]; exact (Or.inl ⟨_, _, _, _, _, _, _, _, _, _, _, _, _, _, _, _, _, _, _, _, _, _, rfl, hfr, hlen, hsl, h80, h87, h88, h93, h91, h92, h110, h111, ptrI_0, (by omega), (by first | exact jmk | exact rgs_w jmk (by omega)), (by first | exact jrl | exact rgs_w jrl (by omega)), (by first | exact jrh | exact rgs_w jrh (by omega)), (by first | exact jns | exact rgs_w jns (by omega)), (by first | exact jnm | exact rgs_w jnm (by omega))⟩)
      · cases hv
        rw [hGe]
        change ab_W _ _ _ G6 80 [some (vR 80), some (vz (m_nodes + 1)), some (vz (ON m_depth)), none] [vj 1000000000000, vz (ON m_depth), vz 6, vR 80] _
        refine ab_callV (d' := d - 1) (as := [vz 6, vz (ON m_depth), vj 1000000000000]) (st := []) (r := _) (z_MO_node (o := o) (m_thrown := m_thrown) (m_taped := m_taped) (m_length := m_length) (m_out := m_out) (m_wide := m_wide) (m_gathered := m_gathered) (m_sets := m_sets) (m_ranges := m_ranges) (m_nodes := (m_nodes + 1 + 1)) (m_at := m_at) (m_flags := (OF m_depth)) (m_fault := m_fault) (m_place := m_place) (m_numbered := m_numbered) (m_depth := (m_depth - 1)) (m_value := m_value) (m_isNot := m_isNot) (m_least0 := m_least0) (m_most0 := m_most0) (m_slot := m_slot) (m_work := m_work) (m_got := m_got) (m_rowMany := m_rowMany) (m_charAt := m_charAt) (m_charWide := m_charWide) (m_trail := m_trail) (m_isMatch := m_isMatch) (m_matchGroups := m_matchGroups) (m_allFrom := m_allFrom) (m_allBefore := m_allBefore) (m_founds := m_founds) (m_pieces := m_pieces) (m_writtenMany := m_writtenMany) (m_templateWide := m_templateWide) (m_tooMuch := m_tooMuch) (K := K) (O := O) (Fi := Fi) (Be := Be) (Z := Z) (k := 6) (w := (ON m_depth)) (zs := 1000000000000) h80 h94 h95 h96 h97 h100 (by omega) (by omega)) (fun oc G2 h => by rcases h with ⟨h, _⟩ <;> exact ⟨_, h⟩) (by omega) m_MO_node ml_MO_269 im_MO_node se_MO_node c_MO h80.2.2 (Nat.le_of_ble_eq_true rfl) d_MO_closeGroup_80 rfl ?_
        intro v G27 hq
        rcases hq with ⟨hv, hfk, hlk, hsk, hN80, hN94, hN95, hN96, hN97, hN100⟩
        cases hv
        have h84 := hfk.get h84 (by decide)
        have h87 := hfk.get h87 (by decide)
        have h88 := hfk.get h88 (by decide)
        have h93 := hfk.get h93 (by decide)
        have h81 := hfk.get h81 (by decide)
        have h82 := hfk.get h82 (by decide)
        have h91 := hfk.get h91 (by decide)
        have h92 := hfk.get h92 (by decide)
        have h110 := hfk.get h110 (by decide)
        have h111 := hfk.get h111 (by decide)
        have h98 := hfk.get h98 (by decide)
        have h99 := hfk.get h99 (by decide)
        have h101 := hfk.get h101 (by decide)
        have h90 := hfk.get h90 (by decide)
        have h89 := hfk.get h89 (by decide)
        have h105 := hfk.get h105 (by decide)
        have h106 := hfk.get h106 (by decide)
        have h107 := hfk.get h107 (by decide)
        have h108 := hfk.get h108 (by decide)
        have h109 := hfk.get h109 (by decide)
        have h102 := hfk.get h102 (by decide)
        have h103 := hfk.get h103 (by decide)
        have h104 := hfk.get h104 (by decide)
        have hfr := hfr.tr hfk (by decide)
        have hlen := hlk.trans hlen
        have hsl := hsk.trans hsl
        have h80 := hN80
        have h94 := hN94
        have h95 := hN95
        have h96 := hN96
        have h97 := hN97
        have h100 := hN100
        change ab_W _ _ _ G27 83 [some (vR 80), some (vz (m_nodes + 1)), some (vz (ON m_depth)), none] [vz (m_nodes + 1 + 1)] _
        refine ab_istore_n d_MO_closeGroup_83 (Nat.le_of_ble_eq_true rfl) (Nat.le_of_ble_eq_true rfl) rfl ?_
        change ab_W _ _ _ G27 84 [some (vR 80), some (vz (m_nodes + 1)), some (vz (ON m_depth)), some (vz (m_nodes + 1 + 1))] [] _
        refine ab_aload_n d_MO_closeGroup_84 rfl ?_
        refine ab_getf (fs := mof m_thrown m_taped m_length m_out m_wide m_gathered m_sets m_ranges ((m_nodes + 1 + 1) + 1) m_at (OF m_depth) m_fault m_place m_numbered (m_depth - 1) m_value m_isNot m_least0 m_most0 m_slot m_work m_got m_rowMany m_charAt m_charWide m_trail m_isMatch m_matchGroups m_allFrom m_allBefore m_founds m_pieces m_writtenMany m_templateWide m_tooMuch) f_MO_56 d_MO_closeGroup_85 h80.2.2 rfl ?_
        refine ab_iload_n d_MO_closeGroup_88 rfl ?_
        refine ab_iload_n d_MO_closeGroup_89 rfl ?_
        refine zz_iast d_MO_closeGroup_90 h96 (by omega) (h96.2.1 (by decide)) ?_
        obtain ⟨G28, eG28⟩ : ∃ z : ab_G, z = List.set G27 96 (za 4200 (zu (zu Fi (m_nodes + 1 + 1) (-1)) (m_nodes + 1 + 1) (m_nodes + 1))) := ⟨_, rfl⟩
        have h80 := h80.keep h96 eG28 (by decide)
        have h84 := h84.keep h96 eG28 (by decide)
        have h87 := h87.keep h96 eG28 (by decide)
        have h88 := h88.keep h96 eG28 (by decide)
        have h93 := h93.keep h96 eG28 (by decide)
        have h81 := h81.keep h96 eG28 (by decide)
        have h82 := h82.keep h96 eG28 (by decide)
        have h91 := h91.keep h96 eG28 (by decide)
        have h92 := h92.keep h96 eG28 (by decide)
        have h110 := h110.keep h96 eG28 (by decide)
        have h111 := h111.keep h96 eG28 (by decide)
        have h94 := h94.keep h96 eG28 (by decide)
        have h95 := h95.keep h96 eG28 (by decide)
        have h97 := h97.keep h96 eG28 (by decide)
        have h98 := h98.keep h96 eG28 (by decide)
        have h99 := h99.keep h96 eG28 (by decide)
        have h100 := h100.keep h96 eG28 (by decide)
        have h101 := h101.keep h96 eG28 (by decide)
        have h90 := h90.keep h96 eG28 (by decide)
        have h89 := h89.keep h96 eG28 (by decide)
        have h105 := h105.keep h96 eG28 (by decide)
        have h106 := h106.keep h96 eG28 (by decide)
        have h107 := h107.keep h96 eG28 (by decide)
        have h108 := h108.keep h96 eG28 (by decide)
        have h109 := h109.keep h96 eG28 (by decide)
        have h102 := h102.keep h96 eG28 (by decide)
        have h103 := h103.keep h96 eG28 (by decide)
        have h104 := h104.keep h96 eG28 (by decide)
        have hlen := (z_len eG28).trans hlen
        have hsl := (z_sl h96 eG28 rfl).trans hsl
        have hfr := hfr.wr h96 eG28 (by decide)
        have h96 := h96.kept eG28
        change ab_W _ _ _ (List.set G27 96 (za 4200 (zu (zu Fi (m_nodes + 1 + 1) (-1)) (m_nodes + 1 + 1) (m_nodes + 1)))) 91 [some (vR 80), some (vz (m_nodes + 1)), some (vz (ON m_depth)), some (vz (m_nodes + 1 + 1))] [] _
        rw [← eG28]
        refine ab_aload_n d_MO_closeGroup_91 rfl ?_
        refine ab_iload_n d_MO_closeGroup_92 rfl ?_
        refine zz_iconst d_MO_closeGroup_93 ?_
        have ptrI_0 : trI o G28 0 ((m_nodes + 1 + 1) + 1) m_sets ((m_depth - 1) + 1) (m_nodes + 1 + 1) (31 - m_depth) 6 := ⟨(zu K (m_nodes + 1 + 1) 6), (zu O (m_nodes + 1 + 1) (ON m_depth)), (zu (zu Fi (m_nodes + 1 + 1) (-1)) (m_nodes + 1 + 1) (m_nodes + 1)), (zu Be (m_nodes + 1 + 1) (-1)), Le, Mo, (zu Z (m_nodes + 1 + 1) 1000000000000), LZ, SM, SA, QF, QL, AF, AL, SD, OA, OF, ON, h94, h95, h96, h97, h98, h99, h100, h101, h90, h89, h105, h106, h107, h108, h109, h102, h103, h104, (rgs_zu jk (by omega)), (rgs_zu jo (by omega)), (rgs_zu (rgs_zu jfi (by omega)) (by omega)), (rgs_zu jbe (by omega)), jle, jmo, (rgs_zu jz (by omega)), jlz, jsm, jsa, jqf, jql, jaf, jal, jsd, joa, jof, jon, (by rw [zu_zu, show m_depth - 1 + 1 = m_depth by omega]; exact rtr_group jt (by omega) (ck5 rfl) (by omega) (by omega) (by omega) (by rw [if_pos (by omega)]; omega)), (by omega), (fun h => absurd h (by decide)), (fun h => absurd h (by decide)), (fun h => absurd h (by decide)), (fun h => absurd h (by decide)), (fun _ => by rw [zu_self]; decide), jss⟩
        refine ab_callV (d' := d - 1) (as := [vz (m_nodes + 1 + 1), vz 1]) (st := []) (r := _) (z_MO_part (o := o) (m_thrown := m_thrown) (m_taped := m_taped) (m_length := m_length) (m_out := m_out) (m_wide := m_wide) (m_gathered := m_gathered) (m_sets := m_sets) (m_ranges := m_ranges) (m_nodes := ((m_nodes + 1 + 1) + 1)) (m_at := m_at) (m_flags := (OF m_depth)) (m_fault := m_fault) (m_place := m_place) (m_numbered := m_numbered) (m_depth := (m_depth - 1)) (m_value := m_value) (m_isNot := m_isNot) (m_least0 := m_least0) (m_most0 := m_most0) (m_slot := m_slot) (m_work := m_work) (m_got := m_got) (m_rowMany := m_rowMany) (m_charAt := m_charAt) (m_charWide := m_charWide) (m_trail := m_trail) (m_isMatch := m_isMatch) (m_matchGroups := m_matchGroups) (m_allFrom := m_allFrom) (m_allBefore := m_allBefore) (m_founds := m_founds) (m_pieces := m_pieces) (m_writtenMany := m_writtenMany) (m_templateWide := m_templateWide) (m_tooMuch := m_tooMuch) (x := (m_nodes + 1 + 1)) (s := 1) (dh := (31 - m_depth)) h80 ptrI_0 (by omega) (by omega) (by omega) (by omega)) (fun oc G2 h => by rcases h with ⟨h, _⟩ <;> exact ⟨_, h⟩) (by omega) m_MO_part ml_MO_375 im_MO_part se_MO_part c_MO h80.2.2 (Nat.le_of_ble_eq_true rfl) d_MO_closeGroup_94 rfl ?_
        intro v G29 hq
        rcases hq with ⟨hv, hfk, hlk, hsk, pNtrI_0⟩
        cases hv
        have h80 := hfk.get h80 (by decide)
        have h84 := hfk.get h84 (by decide)
        have h87 := hfk.get h87 (by decide)
        have h88 := hfk.get h88 (by decide)
        have h93 := hfk.get h93 (by decide)
        have h81 := hfk.get h81 (by decide)
        have h82 := hfk.get h82 (by decide)
        have h91 := hfk.get h91 (by decide)
        have h92 := hfk.get h92 (by decide)
        have h110 := hfk.get h110 (by decide)
        have h111 := hfk.get h111 (by decide)
        have ptrI_0 := pNtrI_0
        have hfr := hfr.tr hfk (by decide)
        have hlen := hlk.trans hlen
        have hsl := hsk.trans hsl
        change ab_W _ _ _ G29 97 [some (vR 80), some (vz (m_nodes + 1)), some (vz (ON m_depth)), some (vz (m_nodes + 1 + 1))] [] _
        refine ab_aload_n d_MO_closeGroup_97 rfl ?_
        refine ab_dup d_MO_closeGroup_98 rfl ?_
        refine ab_getf (fs := mof m_thrown m_taped m_length m_out m_wide m_gathered m_sets m_ranges ((m_nodes + 1 + 1) + 1) m_at (OF m_depth) m_fault m_place m_numbered (m_depth - 1) m_value m_isNot m_least0 m_most0 m_slot m_work m_got m_rowMany m_charAt m_charWide m_trail m_isMatch m_matchGroups m_allFrom m_allBefore m_founds m_pieces m_writtenMany m_templateWide m_tooMuch) f_MO_279 d_MO_closeGroup_99 h80.2.2 rfl ?_
        refine zz_iconst d_MO_closeGroup_102 ?_
        refine zz_iadd d_MO_closeGroup_103 ?_
        refine ab_putf (fs := mof m_thrown m_taped m_length m_out m_wide m_gathered m_sets m_ranges ((m_nodes + 1 + 1) + 1) m_at (OF m_depth) m_fault m_place m_numbered (m_depth - 1) m_value m_isNot m_least0 m_most0 m_slot m_work m_got m_rowMany m_charAt m_charWide m_trail m_isMatch m_matchGroups m_allFrom m_allBefore m_founds m_pieces m_writtenMany m_templateWide m_tooMuch) f_MO_279 (Or.inl rfl) d_MO_closeGroup_104 h80.2.2 (Nat.le_of_ble_eq_true rfl) (fun _ => ⟨rfl, rfl⟩) (h80.2.1 (by decide)) ?_
        obtain ⟨G30, eG30⟩ : ∃ z : ab_G, z = List.set G29 80 (ab_ob 12 (mof m_thrown m_taped m_length m_out m_wide m_gathered m_sets m_ranges ((m_nodes + 1 + 1) + 1) (m_at + 1) (OF m_depth) m_fault m_place m_numbered (m_depth - 1) m_value m_isNot m_least0 m_most0 m_slot m_work m_got m_rowMany m_charAt m_charWide m_trail m_isMatch m_matchGroups m_allFrom m_allBefore m_founds m_pieces m_writtenMany m_templateWide m_tooMuch)) := ⟨_, rfl⟩
        have h84 := h84.keep h80 eG30 (by decide)
        have h87 := h87.keep h80 eG30 (by decide)
        have h88 := h88.keep h80 eG30 (by decide)
        have h93 := h93.keep h80 eG30 (by decide)
        have h81 := h81.keep h80 eG30 (by decide)
        have h82 := h82.keep h80 eG30 (by decide)
        have h91 := h91.keep h80 eG30 (by decide)
        have h92 := h92.keep h80 eG30 (by decide)
        have h110 := h110.keep h80 eG30 (by decide)
        have h111 := h111.keep h80 eG30 (by decide)
        have hst := (fx.rf (o := o) (S := [280]) (G := G29)).wr h80 eG30 (List.mem_singleton.mpr rfl)
        have ptrI_0 := trI.fr hst ptrI_0 (by decide) (by decide) (by decide) (by decide) (by decide) (by decide) (by decide) (by decide) (by decide) (by decide) (by decide) (by decide) (by decide) (by decide) (by decide) (by decide) (by decide) (by decide)
        have hlen := (z_len eG30).trans hlen
        have hsl := (z_sl h80 eG30 rfl).trans hsl
        have hfr := hfr.wr h80 eG30 (by decide)
        have h80 := h80.kept eG30
        change ab_W _ _ _ (List.set G29 80 (ab_ob 12 (mof m_thrown m_taped m_length m_out m_wide m_gathered m_sets m_ranges ((m_nodes + 1 + 1) + 1) (m_at + 1) (OF m_depth) m_fault m_place m_numbered (m_depth - 1) m_value m_isNot m_least0 m_most0 m_slot m_work m_got m_rowMany m_charAt m_charWide m_trail m_isMatch m_matchGroups m_allFrom m_allBefore m_founds m_pieces m_writtenMany m_templateWide m_tooMuch))) 107 [some (vR 80), some (vz (m_nodes + 1)), some (vz (ON m_depth)), some (vz (m_nodes + 1 + 1))] [] _
        rw [← eG30]
        refine ab_vret rfl d_MO_closeGroup_107 ?_
        rw [hQ]; exact (Or.inl ⟨_, _, _, _, _, _, _, _, _, _, _, _, _, _, _, _, _, _, _, _, _, _, rfl, hfr, hlen, hsl, h80, h87, h88, h93, h91, h92, h110, h111, ptrI_0, (by omega), (by first | exact jmk | exact rgs_w jmk (by omega)), (by first | exact jrl | exact rgs_w jrl (by omega)), (by first | exact jrh | exact rgs_w jrh (by omega)), (by first | exact jns | exact rgs_w jns (by omega)), (by first | exact jnm | exact rgs_w jnm (by omega))⟩)
  · refine ab_aload_n d_MO_closeGroup_7 rfl ?_
    refine zz_iconst d_MO_closeGroup_8 ?_
    refine ab_aload_n d_MO_closeGroup_9 rfl ?_
    refine ab_getf (fs := mof m_thrown m_taped m_length m_out m_wide m_gathered m_sets m_ranges m_nodes m_at m_flags m_fault m_place m_numbered m_depth m_value m_isNot m_least0 m_most0 m_slot m_work m_got m_rowMany m_charAt m_charWide m_trail m_isMatch m_matchGroups m_allFrom m_allBefore m_founds m_pieces m_writtenMany m_templateWide m_tooMuch) f_MO_279 d_MO_closeGroup_10 h80.2.2 rfl ?_
    refine ab_callV (d' := d - 1) (as := [vz 3, vz m_at]) (st := []) (r := _) (z_MO_wrong (o := o) (m_thrown := m_thrown) (m_taped := m_taped) (m_length := m_length) (m_out := m_out) (m_wide := m_wide) (m_gathered := m_gathered) (m_sets := m_sets) (m_ranges := m_ranges) (m_nodes := m_nodes) (m_at := m_at) (m_flags := m_flags) (m_fault := m_fault) (m_place := m_place) (m_numbered := m_numbered) (m_depth := m_depth) (m_value := m_value) (m_isNot := m_isNot) (m_least0 := m_least0) (m_most0 := m_most0) (m_slot := m_slot) (m_work := m_work) (m_got := m_got) (m_rowMany := m_rowMany) (m_charAt := m_charAt) (m_charWide := m_charWide) (m_trail := m_trail) (m_isMatch := m_isMatch) (m_matchGroups := m_matchGroups) (m_allFrom := m_allFrom) (m_allBefore := m_allBefore) (m_founds := m_founds) (m_pieces := m_pieces) (m_writtenMany := m_writtenMany) (m_templateWide := m_templateWide) (m_tooMuch := m_tooMuch) (x := 3) (y := m_at) h80 (by omega) (by omega)) (fun oc G2 h => by rcases h with ⟨_, _, h, _⟩ <;> exact ⟨_, h⟩) (by omega) m_MO_wrong ml_MO_304 im_MO_wrong se_MO_wrong c_MO h80.2.2 (Nat.le_of_ble_eq_true rfl) d_MO_closeGroup_13 rfl ?_
    intro v G31 hq
    rcases hq with ⟨f232, p233, hv, hfk, hlk, hsk, hN80, hq34⟩
    cases hv
    have h84 := hfk.get h84 (by decide)
    have h87 := hfk.get h87 (by decide)
    have h88 := hfk.get h88 (by decide)
    have h93 := hfk.get h93 (by decide)
    have h81 := hfk.get h81 (by decide)
    have h82 := hfk.get h82 (by decide)
    have h91 := hfk.get h91 (by decide)
    have h92 := hfk.get h92 (by decide)
    have h110 := hfk.get h110 (by decide)
    have h111 := hfk.get h111 (by decide)
    have ptrI_0 := trI.fr hfk ptrI_0 (by decide) (by decide) (by decide) (by decide) (by decide) (by decide) (by decide) (by decide) (by decide) (by decide) (by decide) (by decide) (by decide) (by decide) (by decide) (by decide) (by decide) (by decide)
    have hfr := hfr.tr hfk (by decide)
    have hlen := hlk.trans hlen
    have hsl := hsk.trans hsl
    have h80 := hN80
    change ab_W _ _ _ G31 16 [some (vR 80), none, none, none] [] _
    refine ab_vret rfl d_MO_closeGroup_16 ?_
    rw [hQ]; exact (Or.inr ⟨_, _, _, _, _, _, _, _, _, _, _, _, _, _, _, _, _, _, _, _, _, _, rfl, hfr, hlen, hsl, h80, h87, h88, h93, h91, h92, h110, h111, ptrI_0, (by omega), (by first | exact jmk | exact rgs_w jmk (by omega)), (by first | exact jrl | exact rgs_w jrl (by omega)), (by first | exact jrh | exact rgs_w jrh (by omega)), (by first | exact jns | exact rgs_w jns (by omega)), (by first | exact jnm | exact rgs_w jnm (by omega))⟩)
set_option maxRecDepth 100000 in
set_option maxHeartbeats 4000000 in
theorem y_MO_numbersEnd_4 {X : ab_X} {d : Nat} {Q : Outcome → ab_G → Prop} {o : Nat → Nat} {G0 : ab_G} {m_thrown : Int} {m_taped : Int} {m_length : Int} {m_out : Int} {m_wide : Int} {m_gathered : Int} {m_sets : Int} {m_ranges : Int} {m_nodes : Int} {m_at : Int} {m_flags : Int} {m_fault : Int} {m_place : Int} {m_numbered : Int} {m_depth : Int} {m_value : Int} {m_isNot : Int} {m_least0 : Int} {m_most0 : Int} {m_slot : Int} {m_work : Int} {m_got : Int} {m_rowMany : Int} {m_charAt : Int} {m_charWide : Int} {m_trail : Int} {m_isMatch : Int} {m_matchGroups : Int} {m_allFrom : Int} {m_allBefore : Int} {m_founds : Int} {m_pieces : Int} {m_writtenMany : Int} {m_templateWide : Int} {m_tooMuch : Int} {A_tape : Int → Int} (cta : 0 ≤ m_taped ∧ m_taped ≤ 2000) (jtp : rgs A_tape 2000 0 255) (cat : 0 ≤ m_at ∧ m_at < m_taped) (hd : 1 ≤ d) : ∀ (mz : Nat) {G : ab_G} {k : Int} {n : Int}, (cc o G 80 280 (ab_ob 12 (mof m_thrown m_taped m_length m_out m_wide m_gathered m_sets m_ranges m_nodes m_at m_flags m_fault m_place m_numbered m_depth m_value m_isNot m_least0 m_most0 m_slot m_work m_got m_rowMany m_charAt m_charWide m_trail m_isMatch m_matchGroups m_allFrom m_allBefore m_founds m_pieces m_writtenMany m_templateWide m_tooMuch))) → (cc o G 84 284 (za 2000 A_tape)) → (1 ≤ k ∧ k ≤ 5 ∧ 0 ≤ n ∧ n < q10 (k - 1)) → (fx o o [] G0 G) → (G.length = G0.length) → (ab_slots G = ab_slots G0) → (Int.toNat (5 - k) < mz) → (∀ (G2 : ab_G) (k2 : Int) (n2 : Int), (1 ≤ k2 ∧ k2 ≤ 5 ∧ 0 ≤ n2 ∧ n2 ≤ 10000) → (fx o o [] G0 G2) → (G2.length = G0.length) → (ab_slots G2 = ab_slots G0) → ab_W X (ab_pl y_MO_numbersEnd b_MO_numbersEnd 4 (some (.int))) d G2 49 [some (vR 80), some (vz k2), some (vz n2), none] [] Q) → ab_W X (ab_pl y_MO_numbersEnd b_MO_numbersEnd 4 (some (.int))) d G 4 [some (vR 80), some (vz k), some (vz n), none] [] Q := by
  intro mz
  induction mz with
  | zero => intro G k n h80 h84 ci hfr hlen hsl hm hk0; exact absurd hm (Nat.not_lt_zero _)
  | succ mz ih =>
    intro G k n h80 h84 ci hfr hlen hsl hm hk0
    have hq10_ := q10_in (k - 1) (by omega) (by omega)
    refine ab_aload_n d_MO_numbersEnd_4 rfl ?_
    refine ab_iload_n d_MO_numbersEnd_5 rfl ?_
    refine ab_callV (d' := d - 1) (as := [vz k]) (st := []) (r := _) (z_MO_here (o := o) (m_thrown := m_thrown) (m_taped := m_taped) (m_length := m_length) (m_out := m_out) (m_wide := m_wide) (m_gathered := m_gathered) (m_sets := m_sets) (m_ranges := m_ranges) (m_nodes := m_nodes) (m_at := m_at) (m_flags := m_flags) (m_fault := m_fault) (m_place := m_place) (m_numbered := m_numbered) (m_depth := m_depth) (m_value := m_value) (m_isNot := m_isNot) (m_least0 := m_least0) (m_most0 := m_most0) (m_slot := m_slot) (m_work := m_work) (m_got := m_got) (m_rowMany := m_rowMany) (m_charAt := m_charAt) (m_charWide := m_charWide) (m_trail := m_trail) (m_isMatch := m_isMatch) (m_matchGroups := m_matchGroups) (m_allFrom := m_allFrom) (m_allBefore := m_allBefore) (m_founds := m_founds) (m_pieces := m_pieces) (m_writtenMany := m_writtenMany) (m_templateWide := m_templateWide) (m_tooMuch := m_tooMuch) (A_tape := A_tape) (k := k) h80 h84 (by omega) (by omega) jtp (by omega)) (fun oc G2 h => by rcases h with ⟨h, _⟩ | ⟨h, _⟩ <;> exact ⟨_, h⟩) (by omega) m_MO_here ml_MO_297 im_MO_here se_MO_here c_MO h80.2.2 (Nat.le_of_ble_eq_true rfl) d_MO_numbersEnd_6 rfl ?_
    intro v G1 hq
    rcases hq with ⟨hv, hGe, hq2⟩ | ⟨hv, hGe, hq3⟩
    · cases hv
      rw [hGe]
      change ab_W _ _ _ G 9 [some (vR 80), some (vz k), some (vz n), none] [vz (A_tape (m_at + k))] _
      refine zz_bipush d_MO_numbersEnd_9 (by decide) ?_
      refine zz_icmp_lt (tgt := 49) d_MO_numbersEnd_11 (by decide) (by omega) (by decide) (fun c4 => ?_) (fun c4 => ?_)
      · exact hk0 _ _ _ (by omega) hfr hlen hsl
      · refine ab_aload_n d_MO_numbersEnd_14 rfl ?_
        refine ab_iload_n d_MO_numbersEnd_15 rfl ?_
        refine ab_callV (d' := d - 1) (as := [vz k]) (st := []) (r := _) (z_MO_here (o := o) (m_thrown := m_thrown) (m_taped := m_taped) (m_length := m_length) (m_out := m_out) (m_wide := m_wide) (m_gathered := m_gathered) (m_sets := m_sets) (m_ranges := m_ranges) (m_nodes := m_nodes) (m_at := m_at) (m_flags := m_flags) (m_fault := m_fault) (m_place := m_place) (m_numbered := m_numbered) (m_depth := m_depth) (m_value := m_value) (m_isNot := m_isNot) (m_least0 := m_least0) (m_most0 := m_most0) (m_slot := m_slot) (m_work := m_work) (m_got := m_got) (m_rowMany := m_rowMany) (m_charAt := m_charAt) (m_charWide := m_charWide) (m_trail := m_trail) (m_isMatch := m_isMatch) (m_matchGroups := m_matchGroups) (m_allFrom := m_allFrom) (m_allBefore := m_allBefore) (m_founds := m_founds) (m_pieces := m_pieces) (m_writtenMany := m_writtenMany) (m_templateWide := m_templateWide) (m_tooMuch := m_tooMuch) (A_tape := A_tape) (k := k) h80 h84 (by omega) (by omega) jtp (by omega)) (fun oc G2 h => by rcases h with ⟨h, _⟩ | ⟨h, _⟩ <;> exact ⟨_, h⟩) (by omega) m_MO_here ml_MO_297 im_MO_here se_MO_here c_MO h80.2.2 (Nat.le_of_ble_eq_true rfl) d_MO_numbersEnd_16 rfl ?_
        intro v G5 hq
        rcases hq with ⟨hv, hGe, hq6⟩ | ⟨hv, hGe, hq7⟩
        · cases hv
          rw [hGe]
          change ab_W _ _ _ G 19 [some (vR 80), some (vz k), some (vz n), none] [vz (A_tape (m_at + k))] _
          refine zz_bipush d_MO_numbersEnd_19 (by decide) ?_
          refine zz_icmp_gt (tgt := 49) d_MO_numbersEnd_21 (by decide) (by omega) (by decide) (fun c8 => ?_) (fun c8 => ?_)
          · exact hk0 _ _ _ (by omega) hfr hlen hsl
          · refine ab_iload_n d_MO_numbersEnd_24 rfl ?_
            refine zz_iconst d_MO_numbersEnd_25 ?_
            refine zz_icmp_ge (tgt := 49) d_MO_numbersEnd_26 (by decide) (by omega) (by decide) (fun c9 => ?_) (fun c9 => ?_)
            · exact hk0 _ _ _ (by omega) hfr hlen hsl
            · have hq11_ := q10_s (k - 1) (by omega) (by omega)
              rw [show k - 1 + 1 = k + 1 - 1 by omega] at hq11_
              refine zz_bipush d_MO_numbersEnd_29 (by decide) ?_
              refine ab_iload_n d_MO_numbersEnd_31 rfl ?_
              refine zz_imul d_MO_numbersEnd_32 ?_
              refine ab_aload_n d_MO_numbersEnd_33 rfl ?_
              refine ab_iload_n d_MO_numbersEnd_34 rfl ?_
              refine ab_callV (d' := d - 1) (as := [vz k]) (st := [vz (10 * n)]) (r := _) (z_MO_here (o := o) (m_thrown := m_thrown) (m_taped := m_taped) (m_length := m_length) (m_out := m_out) (m_wide := m_wide) (m_gathered := m_gathered) (m_sets := m_sets) (m_ranges := m_ranges) (m_nodes := m_nodes) (m_at := m_at) (m_flags := m_flags) (m_fault := m_fault) (m_place := m_place) (m_numbered := m_numbered) (m_depth := m_depth) (m_value := m_value) (m_isNot := m_isNot) (m_least0 := m_least0) (m_most0 := m_most0) (m_slot := m_slot) (m_work := m_work) (m_got := m_got) (m_rowMany := m_rowMany) (m_charAt := m_charAt) (m_charWide := m_charWide) (m_trail := m_trail) (m_isMatch := m_isMatch) (m_matchGroups := m_matchGroups) (m_allFrom := m_allFrom) (m_allBefore := m_allBefore) (m_founds := m_founds) (m_pieces := m_pieces) (m_writtenMany := m_writtenMany) (m_templateWide := m_templateWide) (m_tooMuch := m_tooMuch) (A_tape := A_tape) (k := k) h80 h84 (by omega) (by omega) jtp (by omega)) (fun oc G2 h => by rcases h with ⟨h, _⟩ | ⟨h, _⟩ <;> exact ⟨_, h⟩) (by omega) m_MO_here ml_MO_297 im_MO_here se_MO_here c_MO h80.2.2 (Nat.le_of_ble_eq_true rfl) d_MO_numbersEnd_35 rfl ?_
              intro v G10 hq
              rcases hq with ⟨hv, hGe, hq11⟩ | ⟨hv, hGe, hq12⟩
              · cases hv
                rw [hGe]
                change ab_W _ _ _ G 38 [some (vR 80), some (vz k), some (vz n), none] [vz (A_tape (m_at + k)), vz (10 * n)] _
                refine zz_iadd d_MO_numbersEnd_38 ?_
                refine zz_bipush d_MO_numbersEnd_39 (by decide) ?_
                refine zz_isub d_MO_numbersEnd_41 ?_
                refine ab_istore_n d_MO_numbersEnd_42 (Nat.le_of_ble_eq_true rfl) (Nat.le_of_ble_eq_true rfl) rfl ?_
                change ab_W _ _ _ G 43 [some (vR 80), some (vz k), some (vz (((10 * n) + (A_tape (m_at + k))) - 48)), none] [] _
                refine zz_iinc d_MO_numbersEnd_43 rfl (Nat.le_of_ble_eq_true rfl) (Nat.le_of_ble_eq_true rfl) rfl ?_
                change ab_W _ _ _ G 46 [some (vR 80), some (vz (k + 1)), some (vz (((10 * n) + (A_tape (m_at + k))) - 48)), none] [] _
                refine ab_goto (tgt := 4) d_MO_numbersEnd_46 (by decide) ?_
                exact ih (k := (k + 1)) (n := (((10 * n) + (A_tape (m_at + k))) - 48)) h80 h84 (by omega) hfr hlen hsl (by omega) hk0
              · cases hv
                rw [hGe]
                change ab_W _ _ _ G 38 [some (vR 80), some (vz k), some (vz n), none] [vz (-1), vz (10 * n)] _
                exfalso; omega
        · cases hv
          rw [hGe]
          change ab_W _ _ _ G 19 [some (vR 80), some (vz k), some (vz n), none] [vz (-1)] _
          exfalso; omega
    · cases hv
      rw [hGe]
      change ab_W _ _ _ G 9 [some (vR 80), some (vz k), some (vz n), none] [vz (-1)] _
      refine zz_bipush d_MO_numbersEnd_9 (by decide) ?_
      refine zz_icmp_lt (tgt := 49) d_MO_numbersEnd_11 (by decide) (by decide) (by decide) (fun c13 => ?_) (fun c13 => absurd c13 (by decide))
      exact hk0 _ _ _ (by omega) hfr hlen hsl
set_option maxRecDepth 100000 in
set_option maxHeartbeats 4000000 in
theorem y_MO_numbersEnd_88 {X : ab_X} {d : Nat} {Q : Outcome → ab_G → Prop} {o : Nat → Nat} {G0 : ab_G} {m_thrown : Int} {m_taped : Int} {m_length : Int} {m_out : Int} {m_wide : Int} {m_gathered : Int} {m_sets : Int} {m_ranges : Int} {m_nodes : Int} {m_at : Int} {m_flags : Int} {m_fault : Int} {m_place : Int} {m_numbered : Int} {m_depth : Int} {m_value : Int} {m_isNot : Int} {m_least0 : Int} {m_most0 : Int} {m_slot : Int} {m_work : Int} {m_got : Int} {m_rowMany : Int} {m_charAt : Int} {m_charWide : Int} {m_trail : Int} {m_isMatch : Int} {m_matchGroups : Int} {m_allFrom : Int} {m_allBefore : Int} {m_founds : Int} {m_pieces : Int} {m_writtenMany : Int} {m_templateWide : Int} {m_tooMuch : Int} {A_tape : Int → Int} {fk : Int} (cta : 0 ≤ m_taped ∧ m_taped ≤ 2000) (jtp : rgs A_tape 2000 0 255) (cat : 0 ≤ m_at ∧ m_at < m_taped) (cfk : 2 ≤ fk ∧ fk ≤ 6) (hd : 1 ≤ d) : ∀ (mz : Nat) {G : ab_G} {k : Int} {n : Int}, (cc o G 80 280 (ab_ob 12 (mof m_thrown m_taped m_length m_out m_wide m_gathered m_sets m_ranges m_nodes m_at m_flags m_fault m_place m_numbered m_depth m_value m_isNot m_least0 m_most0 m_slot m_work m_got m_rowMany m_charAt m_charWide m_trail m_isMatch m_matchGroups m_allFrom m_allBefore m_founds m_pieces m_writtenMany m_templateWide m_tooMuch))) → (cc o G 84 284 (za 2000 A_tape)) → (fk ≤ k ∧ k ≤ fk + 4 ∧ 0 ≤ n ∧ n < q10 (k - fk)) → (fx o o [] G0 G) → (G.length = G0.length) → (ab_slots G = ab_slots G0) → (Int.toNat (fk + 4 - k) < mz) → (∀ (G2 : ab_G) (k2 : Int) (n2 : Int), (fk ≤ k2 ∧ k2 ≤ fk + 4 ∧ 0 ≤ n2 ∧ n2 ≤ 10000) → (fx o o [] G0 G2) → (G2.length = G0.length) → (ab_slots G2 = ab_slots G0) → ab_W X (ab_pl y_MO_numbersEnd b_MO_numbersEnd 4 (some (.int))) d G2 135 [some (vR 80), some (vz k2), some (vz n2), some (vz fk)] [] Q) → ab_W X (ab_pl y_MO_numbersEnd b_MO_numbersEnd 4 (some (.int))) d G 88 [some (vR 80), some (vz k), some (vz n), some (vz fk)] [] Q := by
  intro mz
  induction mz with
  | zero => intro G k n h80 h84 ci hfr hlen hsl hm hk0; exact absurd hm (Nat.not_lt_zero _)
  | succ mz ih =>
    intro G k n h80 h84 ci hfr hlen hsl hm hk0
    have hq10_ := q10_in (k - fk) (by omega) (by omega)
    refine ab_aload_n d_MO_numbersEnd_88 rfl ?_
    refine ab_iload_n d_MO_numbersEnd_89 rfl ?_
    refine ab_callV (d' := d - 1) (as := [vz k]) (st := []) (r := _) (z_MO_here (o := o) (m_thrown := m_thrown) (m_taped := m_taped) (m_length := m_length) (m_out := m_out) (m_wide := m_wide) (m_gathered := m_gathered) (m_sets := m_sets) (m_ranges := m_ranges) (m_nodes := m_nodes) (m_at := m_at) (m_flags := m_flags) (m_fault := m_fault) (m_place := m_place) (m_numbered := m_numbered) (m_depth := m_depth) (m_value := m_value) (m_isNot := m_isNot) (m_least0 := m_least0) (m_most0 := m_most0) (m_slot := m_slot) (m_work := m_work) (m_got := m_got) (m_rowMany := m_rowMany) (m_charAt := m_charAt) (m_charWide := m_charWide) (m_trail := m_trail) (m_isMatch := m_isMatch) (m_matchGroups := m_matchGroups) (m_allFrom := m_allFrom) (m_allBefore := m_allBefore) (m_founds := m_founds) (m_pieces := m_pieces) (m_writtenMany := m_writtenMany) (m_templateWide := m_templateWide) (m_tooMuch := m_tooMuch) (A_tape := A_tape) (k := k) h80 h84 (by omega) (by omega) jtp (by omega)) (fun oc G2 h => by rcases h with ⟨h, _⟩ | ⟨h, _⟩ <;> exact ⟨_, h⟩) (by omega) m_MO_here ml_MO_297 im_MO_here se_MO_here c_MO h80.2.2 (Nat.le_of_ble_eq_true rfl) d_MO_numbersEnd_90 rfl ?_
    intro v G1 hq
    rcases hq with ⟨hv, hGe, hq2⟩ | ⟨hv, hGe, hq3⟩
    · cases hv
      rw [hGe]
      change ab_W _ _ _ G 93 [some (vR 80), some (vz k), some (vz n), some (vz fk)] [vz (A_tape (m_at + k))] _
      refine zz_bipush d_MO_numbersEnd_93 (by decide) ?_
      refine zz_icmp_lt (tgt := 135) d_MO_numbersEnd_95 (by decide) (by omega) (by decide) (fun c4 => ?_) (fun c4 => ?_)
      · exact hk0 _ _ _ (by omega) hfr hlen hsl
      · refine ab_aload_n d_MO_numbersEnd_98 rfl ?_
        refine ab_iload_n d_MO_numbersEnd_99 rfl ?_
        refine ab_callV (d' := d - 1) (as := [vz k]) (st := []) (r := _) (z_MO_here (o := o) (m_thrown := m_thrown) (m_taped := m_taped) (m_length := m_length) (m_out := m_out) (m_wide := m_wide) (m_gathered := m_gathered) (m_sets := m_sets) (m_ranges := m_ranges) (m_nodes := m_nodes) (m_at := m_at) (m_flags := m_flags) (m_fault := m_fault) (m_place := m_place) (m_numbered := m_numbered) (m_depth := m_depth) (m_value := m_value) (m_isNot := m_isNot) (m_least0 := m_least0) (m_most0 := m_most0) (m_slot := m_slot) (m_work := m_work) (m_got := m_got) (m_rowMany := m_rowMany) (m_charAt := m_charAt) (m_charWide := m_charWide) (m_trail := m_trail) (m_isMatch := m_isMatch) (m_matchGroups := m_matchGroups) (m_allFrom := m_allFrom) (m_allBefore := m_allBefore) (m_founds := m_founds) (m_pieces := m_pieces) (m_writtenMany := m_writtenMany) (m_templateWide := m_templateWide) (m_tooMuch := m_tooMuch) (A_tape := A_tape) (k := k) h80 h84 (by omega) (by omega) jtp (by omega)) (fun oc G2 h => by rcases h with ⟨h, _⟩ | ⟨h, _⟩ <;> exact ⟨_, h⟩) (by omega) m_MO_here ml_MO_297 im_MO_here se_MO_here c_MO h80.2.2 (Nat.le_of_ble_eq_true rfl) d_MO_numbersEnd_100 rfl ?_
        intro v G5 hq
        rcases hq with ⟨hv, hGe, hq6⟩ | ⟨hv, hGe, hq7⟩
        · cases hv
          rw [hGe]
          change ab_W _ _ _ G 103 [some (vR 80), some (vz k), some (vz n), some (vz fk)] [vz (A_tape (m_at + k))] _
          refine zz_bipush d_MO_numbersEnd_103 (by decide) ?_
          refine zz_icmp_gt (tgt := 135) d_MO_numbersEnd_105 (by decide) (by omega) (by decide) (fun c8 => ?_) (fun c8 => ?_)
          · exact hk0 _ _ _ (by omega) hfr hlen hsl
          · refine ab_iload_n d_MO_numbersEnd_108 rfl ?_
            refine ab_iload_n d_MO_numbersEnd_109 rfl ?_
            refine zz_iconst d_MO_numbersEnd_110 ?_
            refine zz_iadd d_MO_numbersEnd_111 ?_
            refine zz_icmp_ge (tgt := 135) d_MO_numbersEnd_112 (by decide) (by omega) (by omega) (fun c9 => ?_) (fun c9 => ?_)
            · exact hk0 _ _ _ (by omega) hfr hlen hsl
            · have hq11_ := q10_s (k - fk) (by omega) (by omega)
              rw [show k - fk + 1 = k + 1 - fk by omega] at hq11_
              refine zz_bipush d_MO_numbersEnd_115 (by decide) ?_
              refine ab_iload_n d_MO_numbersEnd_117 rfl ?_
              refine zz_imul d_MO_numbersEnd_118 ?_
              refine ab_aload_n d_MO_numbersEnd_119 rfl ?_
              refine ab_iload_n d_MO_numbersEnd_120 rfl ?_
              refine ab_callV (d' := d - 1) (as := [vz k]) (st := [vz (10 * n)]) (r := _) (z_MO_here (o := o) (m_thrown := m_thrown) (m_taped := m_taped) (m_length := m_length) (m_out := m_out) (m_wide := m_wide) (m_gathered := m_gathered) (m_sets := m_sets) (m_ranges := m_ranges) (m_nodes := m_nodes) (m_at := m_at) (m_flags := m_flags) (m_fault := m_fault) (m_place := m_place) (m_numbered := m_numbered) (m_depth := m_depth) (m_value := m_value) (m_isNot := m_isNot) (m_least0 := m_least0) (m_most0 := m_most0) (m_slot := m_slot) (m_work := m_work) (m_got := m_got) (m_rowMany := m_rowMany) (m_charAt := m_charAt) (m_charWide := m_charWide) (m_trail := m_trail) (m_isMatch := m_isMatch) (m_matchGroups := m_matchGroups) (m_allFrom := m_allFrom) (m_allBefore := m_allBefore) (m_founds := m_founds) (m_pieces := m_pieces) (m_writtenMany := m_writtenMany) (m_templateWide := m_templateWide) (m_tooMuch := m_tooMuch) (A_tape := A_tape) (k := k) h80 h84 (by omega) (by omega) jtp (by omega)) (fun oc G2 h => by rcases h with ⟨h, _⟩ | ⟨h, _⟩ <;> exact ⟨_, h⟩) (by omega) m_MO_here ml_MO_297 im_MO_here se_MO_here c_MO h80.2.2 (Nat.le_of_ble_eq_true rfl) d_MO_numbersEnd_121 rfl ?_
              intro v G10 hq
              rcases hq with ⟨hv, hGe, hq11⟩ | ⟨hv, hGe, hq12⟩
              · cases hv
                rw [hGe]
                change ab_W _ _ _ G 124 [some (vR 80), some (vz k), some (vz n), some (vz fk)] [vz (A_tape (m_at + k)), vz (10 * n)] _
                refine zz_iadd d_MO_numbersEnd_124 ?_
                refine zz_bipush d_MO_numbersEnd_125 (by decide) ?_
                refine zz_isub d_MO_numbersEnd_127 ?_
                refine ab_istore_n d_MO_numbersEnd_128 (Nat.le_of_ble_eq_true rfl) (Nat.le_of_ble_eq_true rfl) rfl ?_
                change ab_W _ _ _ G 129 [some (vR 80), some (vz k), some (vz (((10 * n) + (A_tape (m_at + k))) - 48)), some (vz fk)] [] _
                refine zz_iinc d_MO_numbersEnd_129 rfl (Nat.le_of_ble_eq_true rfl) (Nat.le_of_ble_eq_true rfl) rfl ?_
                change ab_W _ _ _ G 132 [some (vR 80), some (vz (k + 1)), some (vz (((10 * n) + (A_tape (m_at + k))) - 48)), some (vz fk)] [] _
                refine ab_goto (tgt := 88) d_MO_numbersEnd_132 (by decide) ?_
                exact ih (k := (k + 1)) (n := (((10 * n) + (A_tape (m_at + k))) - 48)) h80 h84 (by omega) hfr hlen hsl (by omega) hk0
              · cases hv
                rw [hGe]
                change ab_W _ _ _ G 124 [some (vR 80), some (vz k), some (vz n), some (vz fk)] [vz (-1), vz (10 * n)] _
                exfalso; omega
        · cases hv
          rw [hGe]
          change ab_W _ _ _ G 103 [some (vR 80), some (vz k), some (vz n), some (vz fk)] [vz (-1)] _
          exfalso; omega
    · cases hv
      rw [hGe]
      change ab_W _ _ _ G 93 [some (vR 80), some (vz k), some (vz n), some (vz fk)] [vz (-1)] _
      refine zz_bipush d_MO_numbersEnd_93 (by decide) ?_
      refine zz_icmp_lt (tgt := 135) d_MO_numbersEnd_95 (by decide) (by decide) (by decide) (fun c13 => ?_) (fun c13 => absurd c13 (by decide))
      exact hk0 _ _ _ (by omega) hfr hlen hsl
set_option maxRecDepth 100000 in
set_option maxHeartbeats 4000000 in
theorem z_MO_numbersEnd {X : ab_X} {d : Nat} {o : Nat → Nat} {G : ab_G} {m_thrown : Int} {m_taped : Int} {m_length : Int} {m_out : Int} {m_wide : Int} {m_gathered : Int} {m_sets : Int} {m_ranges : Int} {m_nodes : Int} {m_at : Int} {m_flags : Int} {m_fault : Int} {m_place : Int} {m_numbered : Int} {m_depth : Int} {m_value : Int} {m_isNot : Int} {m_least0 : Int} {m_most0 : Int} {m_slot : Int} {m_work : Int} {m_got : Int} {m_rowMany : Int} {m_charAt : Int} {m_charWide : Int} {m_trail : Int} {m_isMatch : Int} {m_matchGroups : Int} {m_allFrom : Int} {m_allBefore : Int} {m_founds : Int} {m_pieces : Int} {m_writtenMany : Int} {m_templateWide : Int} {m_tooMuch : Int} {A_tape : Int → Int} (h80 : cc o G 80 280 (ab_ob 12 (mof m_thrown m_taped m_length m_out m_wide m_gathered m_sets m_ranges m_nodes m_at m_flags m_fault m_place m_numbered m_depth m_value m_isNot m_least0 m_most0 m_slot m_work m_got m_rowMany m_charAt m_charWide m_trail m_isMatch m_matchGroups m_allFrom m_allBefore m_founds m_pieces m_writtenMany m_templateWide m_tooMuch))) (h84 : cc o G 84 284 (za 2000 A_tape)) (n18 : ab_n0 = 18) (cta : 0 ≤ m_taped ∧ m_taped ≤ 2000) (jtp : rgs A_tape 2000 0 255) (cat : 0 ≤ m_at ∧ m_at < m_taped) (hd : 2 ≤ d) : ab_F X d y_MO_numbersEnd (.code y_MO_numbersEnd b_MO_numbersEnd 4 (some (.int))) [vR 80] G (fun oc G2 => (∃ le2 : Int, ∃ mo2 : Int, oc = .returned (some (vz (-1))) ∧ fx o o [280] G G2 ∧ G2.length = G.length ∧ ab_slots G2 = ab_slots G ∧ cc o G2 80 280 (ab_ob 12 (mof m_thrown m_taped m_length m_out m_wide m_gathered m_sets m_ranges m_nodes m_at m_flags m_fault m_place m_numbered m_depth m_value m_isNot le2 mo2 m_slot m_work m_got m_rowMany m_charAt m_charWide m_trail m_isMatch m_matchGroups m_allFrom m_allBefore m_founds m_pieces m_writtenMany m_templateWide m_tooMuch))) ∨ (∃ k2 : Int, ∃ le2 : Int, ∃ mo2 : Int, oc = .returned (some (vz k2)) ∧ fx o o [280] G G2 ∧ G2.length = G.length ∧ ab_slots G2 = ab_slots G ∧ cc o G2 80 280 (ab_ob 12 (mof m_thrown m_taped m_length m_out m_wide m_gathered m_sets m_ranges m_nodes m_at m_flags m_fault m_place m_numbered m_depth m_value m_isNot le2 mo2 m_slot m_work m_got m_rowMany m_charAt m_charWide m_trail m_isMatch m_matchGroups m_allFrom m_allBefore m_founds m_pieces m_writtenMany m_templateWide m_tooMuch)) ∧ (1 ≤ k2 ∧ m_at + k2 ≤ m_taped ∧ 0 ≤ le2 ∧ le2 ≤ 10000 ∧ -1 ≤ mo2 ∧ mo2 ≤ 10000))) := by
  refine ab_F_of (by decide +kernel) (Nat.le_of_ble_eq_true rfl) ?_
  obtain ⟨Q, hQ⟩ : ∃ z : Outcome → ab_G → Prop, z = (fun oc G2 => (∃ le2 : Int, ∃ mo2 : Int, oc = .returned (some (vz (-1))) ∧ fx o o [280] G G2 ∧ G2.length = G.length ∧ ab_slots G2 = ab_slots G ∧ cc o G2 80 280 (ab_ob 12 (mof m_thrown m_taped m_length m_out m_wide m_gathered m_sets m_ranges m_nodes m_at m_flags m_fault m_place m_numbered m_depth m_value m_isNot le2 mo2 m_slot m_work m_got m_rowMany m_charAt m_charWide m_trail m_isMatch m_matchGroups m_allFrom m_allBefore m_founds m_pieces m_writtenMany m_templateWide m_tooMuch))) ∨ (∃ k2 : Int, ∃ le2 : Int, ∃ mo2 : Int, oc = .returned (some (vz k2)) ∧ fx o o [280] G G2 ∧ G2.length = G.length ∧ ab_slots G2 = ab_slots G ∧ cc o G2 80 280 (ab_ob 12 (mof m_thrown m_taped m_length m_out m_wide m_gathered m_sets m_ranges m_nodes m_at m_flags m_fault m_place m_numbered m_depth m_value m_isNot le2 mo2 m_slot m_work m_got m_rowMany m_charAt m_charWide m_trail m_isMatch m_matchGroups m_allFrom m_allBefore m_founds m_pieces m_writtenMany m_templateWide m_tooMuch)) ∧ (1 ≤ k2 ∧ m_at + k2 ≤ m_taped ∧ 0 ≤ le2 ∧ le2 ≤ 10000 ∧ -1 ≤ mo2 ∧ mo2 ≤ 10000))) := ⟨_, rfl⟩
  rw [← hQ]
  change ab_W X (ab_pl y_MO_numbersEnd b_MO_numbersEnd 4 (some (.int))) d G 0 [some (vR 80), none, none, none] [] Q
  have hfr : fx o o [280] G G := fx.rf
  have hlen : G.length = G.length := rfl
  have hsl : ab_slots G = ab_slots G := rfl
  refine zz_iconst d_MO_numbersEnd_0 ?_
  refine ab_istore_n d_MO_numbersEnd_1 (Nat.le_of_ble_eq_true rfl) (Nat.le_of_ble_eq_true rfl) rfl ?_
  change ab_W _ _ _ G 2 [some (vR 80), some (vz 1), none, none] [] _
  refine zz_iconst d_MO_numbersEnd_2 ?_
  refine ab_istore_n d_MO_numbersEnd_3 (Nat.le_of_ble_eq_true rfl) (Nat.le_of_ble_eq_true rfl) rfl ?_
  change ab_W _ _ _ G 4 [some (vR 80), some (vz 1), some (vz 0), none] [] _
  refine y_MO_numbersEnd_4 (m_thrown := m_thrown) (m_taped := m_taped) (m_length := m_length) (m_out := m_out) (m_wide := m_wide) (m_gathered := m_gathered) (m_sets := m_sets) (m_ranges := m_ranges) (m_nodes := m_nodes) (m_at := m_at) (m_flags := m_flags) (m_fault := m_fault) (m_place := m_place) (m_numbered := m_numbered) (m_depth := m_depth) (m_value := m_value) (m_isNot := m_isNot) (m_least0 := m_least0) (m_most0 := m_most0) (m_slot := m_slot) (m_work := m_work) (m_got := m_got) (m_rowMany := m_rowMany) (m_charAt := m_charAt) (m_charWide := m_charWide) (m_trail := m_trail) (m_isMatch := m_isMatch) (m_matchGroups := m_matchGroups) (m_allFrom := m_allFrom) (m_allBefore := m_allBefore) (m_founds := m_founds) (m_pieces := m_pieces) (m_writtenMany := m_writtenMany) (m_templateWide := m_templateWide) (m_tooMuch := m_tooMuch) (A_tape := A_tape) (G0 := G) (k := 1) (n := 0) (by omega) jtp (by omega) (by omega) (Int.toNat (5 - 1) + 1) h80 h84 (by have t_ := q10_in (1 - 1) (by decide) (by decide); omega) fx.rf rfl rfl (by omega) (fun G1 k22 n23 hq4 hfk hlk hsk => ?_)
  · have h80 := hfk.get h80 (by decide)
    have h84 := hfk.get h84 (by decide)
    have hfr := hfr.tr hfk (by decide)
    have hlen := hlk.trans hlen
    have hsl := hsk.trans hsl
    change ab_W _ _ _ G1 49 [some (vR 80), some (vz k22), some (vz n23), none] [] _
    refine ab_iload_n d_MO_numbersEnd_49 rfl ?_
    refine zz_iconst d_MO_numbersEnd_50 ?_
    refine zz_icmp_lt (tgt := 59) d_MO_numbersEnd_51 (by decide) (by omega) (by decide) (fun c5 => ?_) (fun c5 => ?_)
    · refine zz_iconst d_MO_numbersEnd_59 ?_
      refine zz_iret rfl d_MO_numbersEnd_60 ?_
      rw [hQ]; exact (Or.inl ⟨_, _, rfl, hfr, hlen, hsl, h80⟩)
    · refine ab_iload_n d_MO_numbersEnd_54 rfl ?_
      refine zz_iconst d_MO_numbersEnd_55 ?_
      refine zz_icmp_le (tgt := 61) d_MO_numbersEnd_56 (by decide) (by omega) (by decide) (fun c6 => ?_) (fun c6 => ?_)
      · refine ab_aload_n d_MO_numbersEnd_61 rfl ?_
        refine ab_iload_n d_MO_numbersEnd_62 rfl ?_
        refine ab_putf (fs := mof m_thrown m_taped m_length m_out m_wide m_gathered m_sets m_ranges m_nodes m_at m_flags m_fault m_place m_numbered m_depth m_value m_isNot m_least0 m_most0 m_slot m_work m_got m_rowMany m_charAt m_charWide m_trail m_isMatch m_matchGroups m_allFrom m_allBefore m_founds m_pieces m_writtenMany m_templateWide m_tooMuch) f_MO_403 (Or.inl rfl) d_MO_numbersEnd_63 h80.2.2 (Nat.le_of_ble_eq_true rfl) (fun _ => ⟨rfl, rfl⟩) (h80.2.1 (by decide)) ?_
        obtain ⟨G7, eG7⟩ : ∃ z : ab_G, z = List.set G1 80 (ab_ob 12 (mof m_thrown m_taped m_length m_out m_wide m_gathered m_sets m_ranges m_nodes m_at m_flags m_fault m_place m_numbered m_depth m_value m_isNot n23 m_most0 m_slot m_work m_got m_rowMany m_charAt m_charWide m_trail m_isMatch m_matchGroups m_allFrom m_allBefore m_founds m_pieces m_writtenMany m_templateWide m_tooMuch)) := ⟨_, rfl⟩
        have h84 := h84.keep h80 eG7 (by decide)
        have hlen := (z_len eG7).trans hlen
        have hsl := (z_sl h80 eG7 rfl).trans hsl
        have hfr := hfr.wr h80 eG7 (by decide)
        have h80 := h80.kept eG7
        change ab_W _ _ _ (List.set G1 80 (ab_ob 12 (mof m_thrown m_taped m_length m_out m_wide m_gathered m_sets m_ranges m_nodes m_at m_flags m_fault m_place m_numbered m_depth m_value m_isNot n23 m_most0 m_slot m_work m_got m_rowMany m_charAt m_charWide m_trail m_isMatch m_matchGroups m_allFrom m_allBefore m_founds m_pieces m_writtenMany m_templateWide m_tooMuch))) 66 [some (vR 80), some (vz k22), some (vz n23), none] [] _
        rw [← eG7]
        refine ab_aload_n d_MO_numbersEnd_66 rfl ?_
        refine ab_iload_n d_MO_numbersEnd_67 rfl ?_
        refine ab_putf (fs := mof m_thrown m_taped m_length m_out m_wide m_gathered m_sets m_ranges m_nodes m_at m_flags m_fault m_place m_numbered m_depth m_value m_isNot n23 m_most0 m_slot m_work m_got m_rowMany m_charAt m_charWide m_trail m_isMatch m_matchGroups m_allFrom m_allBefore m_founds m_pieces m_writtenMany m_templateWide m_tooMuch) f_MO_406 (Or.inl rfl) d_MO_numbersEnd_68 h80.2.2 (Nat.le_of_ble_eq_true rfl) (fun _ => ⟨rfl, rfl⟩) (h80.2.1 (by decide)) ?_
        obtain ⟨G8, eG8⟩ : ∃ z : ab_G, z = List.set G7 80 (ab_ob 12 (mof m_thrown m_taped m_length m_out m_wide m_gathered m_sets m_ranges m_nodes m_at m_flags m_fault m_place m_numbered m_depth m_value m_isNot n23 n23 m_slot m_work m_got m_rowMany m_charAt m_charWide m_trail m_isMatch m_matchGroups m_allFrom m_allBefore m_founds m_pieces m_writtenMany m_templateWide m_tooMuch)) := ⟨_, rfl⟩
        have h84 := h84.keep h80 eG8 (by decide)
        have hlen := (z_len eG8).trans hlen
        have hsl := (z_sl h80 eG8 rfl).trans hsl
        have hfr := hfr.wr h80 eG8 (by decide)
        have h80 := h80.kept eG8
        change ab_W _ _ _ (List.set G7 80 (ab_ob 12 (mof m_thrown m_taped m_length m_out m_wide m_gathered m_sets m_ranges m_nodes m_at m_flags m_fault m_place m_numbered m_depth m_value m_isNot n23 n23 m_slot m_work m_got m_rowMany m_charAt m_charWide m_trail m_isMatch m_matchGroups m_allFrom m_allBefore m_founds m_pieces m_writtenMany m_templateWide m_tooMuch))) 71 [some (vR 80), some (vz k22), some (vz n23), none] [] _
        rw [← eG8]
        refine ab_aload_n d_MO_numbersEnd_71 rfl ?_
        refine ab_iload_n d_MO_numbersEnd_72 rfl ?_
        refine ab_callV (d' := d - 1) (as := [vz k22]) (st := []) (r := _) (z_MO_here (o := o) (m_thrown := m_thrown) (m_taped := m_taped) (m_length := m_length) (m_out := m_out) (m_wide := m_wide) (m_gathered := m_gathered) (m_sets := m_sets) (m_ranges := m_ranges) (m_nodes := m_nodes) (m_at := m_at) (m_flags := m_flags) (m_fault := m_fault) (m_place := m_place) (m_numbered := m_numbered) (m_depth := m_depth) (m_value := m_value) (m_isNot := m_isNot) (m_least0 := n23) (m_most0 := n23) (m_slot := m_slot) (m_work := m_work) (m_got := m_got) (m_rowMany := m_rowMany) (m_charAt := m_charAt) (m_charWide := m_charWide) (m_trail := m_trail) (m_isMatch := m_isMatch) (m_matchGroups := m_matchGroups) (m_allFrom := m_allFrom) (m_allBefore := m_allBefore) (m_founds := m_founds) (m_pieces := m_pieces) (m_writtenMany := m_writtenMany) (m_templateWide := m_templateWide) (m_tooMuch := m_tooMuch) (A_tape := A_tape) (k := k22) h80 h84 (by omega) (by omega) jtp (by omega)) (fun oc G2 h => by rcases h with ⟨h, _⟩ | ⟨h, _⟩ <;> exact ⟨_, h⟩) (by omega) m_MO_here ml_MO_297 im_MO_here se_MO_here c_MO h80.2.2 (Nat.le_of_ble_eq_true rfl) d_MO_numbersEnd_73 rfl ?_
        intro v G9 hq
        rcases hq with ⟨hv, hGe, hq10⟩ | ⟨hv, hGe, hq11⟩
        · cases hv
          rw [hGe]
          change ab_W _ _ _ G8 76 [some (vR 80), some (vz k22), some (vz n23), none] [vz (A_tape (m_at + k22))] _
          refine zz_bipush d_MO_numbersEnd_76 (by decide) ?_
          refine zz_icmp_ne (tgt := 158) d_MO_numbersEnd_78 (by decide) (by omega) (by decide) (fun c12 => ?_) (fun c12 => ?_)
          · refine ab_aload_n d_MO_numbersEnd_158 rfl ?_
            refine ab_iload_n d_MO_numbersEnd_159 rfl ?_
            refine ab_callV (d' := d - 1) (as := [vz k22]) (st := []) (r := _) (z_MO_here (o := o) (m_thrown := m_thrown) (m_taped := m_taped) (m_length := m_length) (m_out := m_out) (m_wide := m_wide) (m_gathered := m_gathered) (m_sets := m_sets) (m_ranges := m_ranges) (m_nodes := m_nodes) (m_at := m_at) (m_flags := m_flags) (m_fault := m_fault) (m_place := m_place) (m_numbered := m_numbered) (m_depth := m_depth) (m_value := m_value) (m_isNot := m_isNot) (m_least0 := n23) (m_most0 := n23) (m_slot := m_slot) (m_work := m_work) (m_got := m_got) (m_rowMany := m_rowMany) (m_charAt := m_charAt) (m_charWide := m_charWide) (m_trail := m_trail) (m_isMatch := m_isMatch) (m_matchGroups := m_matchGroups) (m_allFrom := m_allFrom) (m_allBefore := m_allBefore) (m_founds := m_founds) (m_pieces := m_pieces) (m_writtenMany := m_writtenMany) (m_templateWide := m_templateWide) (m_tooMuch := m_tooMuch) (A_tape := A_tape) (k := k22) h80 h84 (by omega) (by omega) jtp (by omega)) (fun oc G2 h => by rcases h with ⟨h, _⟩ | ⟨h, _⟩ <;> exact ⟨_, h⟩) (by omega) m_MO_here ml_MO_297 im_MO_here se_MO_here c_MO h80.2.2 (Nat.le_of_ble_eq_true rfl) d_MO_numbersEnd_160 rfl ?_
            intro v G13 hq
            rcases hq with ⟨hv, hGe, hq14⟩ | ⟨hv, hGe, hq15⟩
            · cases hv
              rw [hGe]
              change ab_W _ _ _ G8 163 [some (vR 80), some (vz k22), some (vz n23), none] [vz (A_tape (m_at + k22))] _
              refine zz_bipush d_MO_numbersEnd_163 (by decide) ?_
              refine zz_icmp_ne (tgt := 174) d_MO_numbersEnd_165 (by decide) (by omega) (by decide) (fun c16 => ?_) (fun c16 => ?_)
              · refine zz_iconst d_MO_numbersEnd_174 ?_
                refine zz_iret rfl d_MO_numbersEnd_175 ?_
                rw [hQ]; exact (Or.inl ⟨_, _, rfl, hfr, hlen, hsl, h80⟩)
              · refine ab_iload_n d_MO_numbersEnd_168 rfl ?_
                refine zz_iconst d_MO_numbersEnd_169 ?_
                refine zz_iadd d_MO_numbersEnd_170 ?_
                refine ab_goto (tgt := 175) d_MO_numbersEnd_171 (by decide) ?_
                refine zz_iret rfl d_MO_numbersEnd_175 ?_
                rw [hQ]; exact (Or.inr ⟨_, _, _, rfl, hfr, hlen, hsl, h80, (by omega)⟩)
            · cases hv
              rw [hGe]
              change ab_W _ _ _ G8 163 [some (vR 80), some (vz k22), some (vz n23), none] [vz (-1)] _
              exfalso; omega
          · refine zz_iinc d_MO_numbersEnd_81 rfl (Nat.le_of_ble_eq_true rfl) (Nat.le_of_ble_eq_true rfl) rfl ?_
            change ab_W _ _ _ G8 84 [some (vR 80), some (vz (k22 + 1)), some (vz n23), none] [] _
            refine ab_iload_n d_MO_numbersEnd_84 rfl ?_
            refine ab_istore_n d_MO_numbersEnd_85 (Nat.le_of_ble_eq_true rfl) (Nat.le_of_ble_eq_true rfl) rfl ?_
            change ab_W _ _ _ G8 86 [some (vR 80), some (vz (k22 + 1)), some (vz n23), some (vz (k22 + 1))] [] _
            refine zz_iconst d_MO_numbersEnd_86 ?_
            refine ab_istore_n d_MO_numbersEnd_87 (Nat.le_of_ble_eq_true rfl) (Nat.le_of_ble_eq_true rfl) rfl ?_
            change ab_W _ _ _ G8 88 [some (vR 80), some (vz (k22 + 1)), some (vz 0), some (vz (k22 + 1))] [] _
            refine y_MO_numbersEnd_88 (m_thrown := m_thrown) (m_taped := m_taped) (m_length := m_length) (m_out := m_out) (m_wide := m_wide) (m_gathered := m_gathered) (m_sets := m_sets) (m_ranges := m_ranges) (m_nodes := m_nodes) (m_at := m_at) (m_flags := m_flags) (m_fault := m_fault) (m_place := m_place) (m_numbered := m_numbered) (m_depth := m_depth) (m_value := m_value) (m_isNot := m_isNot) (m_least0 := n23) (m_most0 := n23) (m_slot := m_slot) (m_work := m_work) (m_got := m_got) (m_rowMany := m_rowMany) (m_charAt := m_charAt) (m_charWide := m_charWide) (m_trail := m_trail) (m_isMatch := m_isMatch) (m_matchGroups := m_matchGroups) (m_allFrom := m_allFrom) (m_allBefore := m_allBefore) (m_founds := m_founds) (m_pieces := m_pieces) (m_writtenMany := m_writtenMany) (m_templateWide := m_templateWide) (m_tooMuch := m_tooMuch) (A_tape := A_tape) (fk := (k22 + 1)) (G0 := G8) (k := (k22 + 1)) (n := 0) (by omega) jtp (by omega) (by omega) (by omega) (Int.toNat ((k22 + 1) + 4 - (k22 + 1)) + 1) h80 h84 (by have t_ := q10_in ((k22 + 1) - (k22 + 1)) (by omega) (by omega); omega) fx.rf rfl rfl (by omega) (fun G17 k218 n219 hq20 hfk hlk hsk => ?_)
            · have h80 := hfk.get h80 (by decide)
              have h84 := hfk.get h84 (by decide)
              have hfr := hfr.tr hfk (by decide)
              have hlen := hlk.trans hlen
              have hsl := hsk.trans hsl
              change ab_W _ _ _ G17 135 [some (vR 80), some (vz k218), some (vz n219), some (vz (k22 + 1))] [] _
              refine ab_iload_n d_MO_numbersEnd_135 rfl ?_
              refine ab_iload_n d_MO_numbersEnd_136 rfl ?_
              refine zz_iconst d_MO_numbersEnd_137 ?_
              refine zz_iadd d_MO_numbersEnd_138 ?_
              refine zz_icmp_le (tgt := 144) d_MO_numbersEnd_139 (by decide) (by omega) (by omega) (fun c21 => ?_) (fun c21 => ?_)
              · refine ab_aload_n d_MO_numbersEnd_144 rfl ?_
                refine ab_iload_n d_MO_numbersEnd_145 rfl ?_
                refine ab_iload_n d_MO_numbersEnd_146 rfl ?_
                refine zz_icmp_ne (tgt := 154) d_MO_numbersEnd_147 (by decide) (by omega) (by omega) (fun c22 => ?_) (fun c22 => ?_)
                · refine ab_iload_n d_MO_numbersEnd_154 rfl ?_
                  refine ab_putf (fs := mof m_thrown m_taped m_length m_out m_wide m_gathered m_sets m_ranges m_nodes m_at m_flags m_fault m_place m_numbered m_depth m_value m_isNot n23 n23 m_slot m_work m_got m_rowMany m_charAt m_charWide m_trail m_isMatch m_matchGroups m_allFrom m_allBefore m_founds m_pieces m_writtenMany m_templateWide m_tooMuch) f_MO_406 (Or.inl rfl) d_MO_numbersEnd_155 h80.2.2 (Nat.le_of_ble_eq_true rfl) (fun _ => ⟨rfl, rfl⟩) (h80.2.1 (by decide)) ?_
                  obtain ⟨G23, eG23⟩ : ∃ z : ab_G, z = List.set G17 80 (ab_ob 12 (mof m_thrown m_taped m_length m_out m_wide m_gathered m_sets m_ranges m_nodes m_at m_flags m_fault m_place m_numbered m_depth m_value m_isNot n23 n219 m_slot m_work m_got m_rowMany m_charAt m_charWide m_trail m_isMatch m_matchGroups m_allFrom m_allBefore m_founds m_pieces m_writtenMany m_templateWide m_tooMuch)) := ⟨_, rfl⟩
                  have h84 := h84.keep h80 eG23 (by decide)
                  have hlen := (z_len eG23).trans hlen
                  have hsl := (z_sl h80 eG23 rfl).trans hsl
                  have hfr := hfr.wr h80 eG23 (by decide)
                  have h80 := h80.kept eG23
                  change ab_W _ _ _ (List.set G17 80 (ab_ob 12 (mof m_thrown m_taped m_length m_out m_wide m_gathered m_sets m_ranges m_nodes m_at m_flags m_fault m_place m_numbered m_depth m_value m_isNot n23 n219 m_slot m_work m_got m_rowMany m_charAt m_charWide m_trail m_isMatch m_matchGroups m_allFrom m_allBefore m_founds m_pieces m_writtenMany m_templateWide m_tooMuch))) 158 [some (vR 80), some (vz k218), some (vz n219), some (vz (k22 + 1))] [] _
                  rw [← eG23]
                  refine ab_aload_n d_MO_numbersEnd_158 rfl ?_
                  refine ab_iload_n d_MO_numbersEnd_159 rfl ?_
                  refine ab_callV (d' := d - 1) (as := [vz k218]) (st := []) (r := _) (z_MO_here (o := o) (m_thrown := m_thrown) (m_taped := m_taped) (m_length := m_length) (m_out := m_out) (m_wide := m_wide) (m_gathered := m_gathered) (m_sets := m_sets) (m_ranges := m_ranges) (m_nodes := m_nodes) (m_at := m_at) (m_flags := m_flags) (m_fault := m_fault) (m_place := m_place) (m_numbered := m_numbered) (m_depth := m_depth) (m_value := m_value) (m_isNot := m_isNot) (m_least0 := n23) (m_most0 := n219) (m_slot := m_slot) (m_work := m_work) (m_got := m_got) (m_rowMany := m_rowMany) (m_charAt := m_charAt) (m_charWide := m_charWide) (m_trail := m_trail) (m_isMatch := m_isMatch) (m_matchGroups := m_matchGroups) (m_allFrom := m_allFrom) (m_allBefore := m_allBefore) (m_founds := m_founds) (m_pieces := m_pieces) (m_writtenMany := m_writtenMany) (m_templateWide := m_templateWide) (m_tooMuch := m_tooMuch) (A_tape := A_tape) (k := k218) h80 h84 (by omega) (by omega) jtp (by omega)) (fun oc G2 h => by rcases h with ⟨h, _⟩ | ⟨h, _⟩ <;> exact ⟨_, h⟩) (by omega) m_MO_here ml_MO_297 im_MO_here se_MO_here c_MO h80.2.2 (Nat.le_of_ble_eq_true rfl) d_MO_numbersEnd_160 rfl ?_
                  intro v G24 hq
                  rcases hq with ⟨hv, hGe, hq25⟩ | ⟨hv, hGe, hq26⟩
                  · cases hv
                    rw [hGe]
                    change ab_W _ _ _ G23 163 [some (vR 80), some (vz k218), some (vz n219), some (vz (k22 + 1))] [vz (A_tape (m_at + k218))] _
                    refine zz_bipush d_MO_numbersEnd_163 (by decide) ?_
                    refine zz_icmp_ne (tgt := 174) d_MO_numbersEnd_165 (by decide) (by omega) (by decide) (fun c27 => ?_) (fun c27 => ?_)
                    · refine zz_iconst d_MO_numbersEnd_174 ?_
                      refine zz_iret rfl d_MO_numbersEnd_175 ?_
                      rw [hQ]; exact (Or.inl ⟨_, _, rfl, hfr, hlen, hsl, h80⟩)
                    · refine ab_iload_n d_MO_numbersEnd_168 rfl ?_
                      refine zz_iconst d_MO_numbersEnd_169 ?_
                      refine zz_iadd d_MO_numbersEnd_170 ?_
                      refine ab_goto (tgt := 175) d_MO_numbersEnd_171 (by decide) ?_
                      refine zz_iret rfl d_MO_numbersEnd_175 ?_
                      rw [hQ]; exact (Or.inr ⟨_, _, _, rfl, hfr, hlen, hsl, h80, (by omega)⟩)
                  · cases hv
                    rw [hGe]
                    change ab_W _ _ _ G23 163 [some (vR 80), some (vz k218), some (vz n219), some (vz (k22 + 1))] [vz (-1)] _
                    refine zz_bipush d_MO_numbersEnd_163 (by decide) ?_
                    refine zz_icmp_ne (tgt := 174) d_MO_numbersEnd_165 (by decide) (by decide) (by decide) (fun c28 => ?_) (fun c28 => absurd c28 (by decide))
                    refine zz_iconst d_MO_numbersEnd_174 ?_
                    refine zz_iret rfl d_MO_numbersEnd_175 ?_
                    rw [hQ]; exact (Or.inl ⟨_, _, rfl, hfr, hlen, hsl, h80⟩)
                · refine zz_iconst d_MO_numbersEnd_150 ?_
                  refine ab_goto (tgt := 155) d_MO_numbersEnd_151 (by decide) ?_
                  refine ab_putf (fs := mof m_thrown m_taped m_length m_out m_wide m_gathered m_sets m_ranges m_nodes m_at m_flags m_fault m_place m_numbered m_depth m_value m_isNot n23 n23 m_slot m_work m_got m_rowMany m_charAt m_charWide m_trail m_isMatch m_matchGroups m_allFrom m_allBefore m_founds m_pieces m_writtenMany m_templateWide m_tooMuch) f_MO_406 (Or.inl rfl) d_MO_numbersEnd_155 h80.2.2 (Nat.le_of_ble_eq_true rfl) (fun _ => ⟨rfl, rfl⟩) (h80.2.1 (by decide)) ?_
                  obtain ⟨G29, eG29⟩ : ∃ z : ab_G, z = List.set G17 80 (ab_ob 12 (mof m_thrown m_taped m_length m_out m_wide m_gathered m_sets m_ranges m_nodes m_at m_flags m_fault m_place m_numbered m_depth m_value m_isNot n23 (-1) m_slot m_work m_got m_rowMany m_charAt m_charWide m_trail m_isMatch m_matchGroups m_allFrom m_allBefore m_founds m_pieces m_writtenMany m_templateWide m_tooMuch)) := ⟨_, rfl⟩
                  have h84 := h84.keep h80 eG29 (by decide)
                  have hlen := (z_len eG29).trans hlen
                  have hsl := (z_sl h80 eG29 rfl).trans hsl
                  have hfr := hfr.wr h80 eG29 (by decide)
                  have h80 := h80.kept eG29
                  change ab_W _ _ _ (List.set G17 80 (ab_ob 12 (mof m_thrown m_taped m_length m_out m_wide m_gathered m_sets m_ranges m_nodes m_at m_flags m_fault m_place m_numbered m_depth m_value m_isNot n23 (-1) m_slot m_work m_got m_rowMany m_charAt m_charWide m_trail m_isMatch m_matchGroups m_allFrom m_allBefore m_founds m_pieces m_writtenMany m_templateWide m_tooMuch))) 158 [some (vR 80), some (vz k218), some (vz n219), some (vz (k22 + 1))] [] _
                  rw [← eG29]
                  refine ab_aload_n d_MO_numbersEnd_158 rfl ?_
                  refine ab_iload_n d_MO_numbersEnd_159 rfl ?_
                  refine ab_callV (d' := d - 1) (as := [vz k218]) (st := []) (r := _) (z_MO_here (o := o) (m_thrown := m_thrown) (m_taped := m_taped) (m_length := m_length) (m_out := m_out) (m_wide := m_wide) (m_gathered := m_gathered) (m_sets := m_sets) (m_ranges := m_ranges) (m_nodes := m_nodes) (m_at := m_at) (m_flags := m_flags) (m_fault := m_fault) (m_place := m_place) (m_numbered := m_numbered) (m_depth := m_depth) (m_value := m_value) (m_isNot := m_isNot) (m_least0 := n23) (m_most0 := (-1)) (m_slot := m_slot) (m_work := m_work) (m_got := m_got) (m_rowMany := m_rowMany) (m_charAt := m_charAt) (m_charWide := m_charWide) (m_trail := m_trail) (m_isMatch := m_isMatch) (m_matchGroups := m_matchGroups) (m_allFrom := m_allFrom) (m_allBefore := m_allBefore) (m_founds := m_founds) (m_pieces := m_pieces) (m_writtenMany := m_writtenMany) (m_templateWide := m_templateWide) (m_tooMuch := m_tooMuch) (A_tape := A_tape) (k := k218) h80 h84 (by omega) (by omega) jtp (by omega)) (fun oc G2 h => by rcases h with ⟨h, _⟩ | ⟨h, _⟩ <;> exact ⟨_, h⟩) (by omega) m_MO_here ml_MO_297 im_MO_here se_MO_here c_MO h80.2.2 (Nat.le_of_ble_eq_true rfl) d_MO_numbersEnd_160 rfl ?_
                  intro v G30 hq
                  rcases hq with ⟨hv, hGe, hq31⟩ | ⟨hv, hGe, hq32⟩
                  · cases hv
                    rw [hGe]
                    change ab_W _ _ _ G29 163 [some (vR 80), some (vz k218), some (vz n219), some (vz (k22 + 1))] [vz (A_tape (m_at + k218))] _
                    refine zz_bipush d_MO_numbersEnd_163 (by decide) ?_
                    refine zz_icmp_ne (tgt := 174) d_MO_numbersEnd_165 (by decide) (by omega) (by decide) (fun c33 => ?_) (fun c33 => ?_)
                    · refine zz_iconst d_MO_numbersEnd_174 ?_
                      refine zz_iret rfl d_MO_numbersEnd_175 ?_
                      rw [hQ]; exact (Or.inl ⟨_, _, rfl, hfr, hlen, hsl, h80⟩)
                    · refine ab_iload_n d_MO_numbersEnd_168 rfl ?_
                      refine zz_iconst d_MO_numbersEnd_169 ?_
                      refine zz_iadd d_MO_numbersEnd_170 ?_
                      refine ab_goto (tgt := 175) d_MO_numbersEnd_171 (by decide) ?_
                      refine zz_iret rfl d_MO_numbersEnd_175 ?_
                      rw [hQ]; exact (Or.inr ⟨_, _, _, rfl, hfr, hlen, hsl, h80, (by omega)⟩)
                  · cases hv
                    rw [hGe]
                    change ab_W _ _ _ G29 163 [some (vR 80), some (vz k218), some (vz n219), some (vz (k22 + 1))] [vz (-1)] _
                    refine zz_bipush d_MO_numbersEnd_163 (by decide) ?_
                    refine zz_icmp_ne (tgt := 174) d_MO_numbersEnd_165 (by decide) (by decide) (by decide) (fun c34 => ?_) (fun c34 => absurd c34 (by decide))
                    refine zz_iconst d_MO_numbersEnd_174 ?_
                    refine zz_iret rfl d_MO_numbersEnd_175 ?_
                    rw [hQ]; exact (Or.inl ⟨_, _, rfl, hfr, hlen, hsl, h80⟩)
              · refine zz_iconst d_MO_numbersEnd_142 ?_
                refine zz_iret rfl d_MO_numbersEnd_143 ?_
                rw [hQ]; exact (Or.inl ⟨_, _, rfl, hfr, hlen, hsl, h80⟩)
        · cases hv
          rw [hGe]
          change ab_W _ _ _ G8 76 [some (vR 80), some (vz k22), some (vz n23), none] [vz (-1)] _
          refine zz_bipush d_MO_numbersEnd_76 (by decide) ?_
          refine zz_icmp_ne (tgt := 158) d_MO_numbersEnd_78 (by decide) (by decide) (by decide) (fun c35 => ?_) (fun c35 => absurd c35 (by decide))
          refine ab_aload_n d_MO_numbersEnd_158 rfl ?_
          refine ab_iload_n d_MO_numbersEnd_159 rfl ?_
          refine ab_callV (d' := d - 1) (as := [vz k22]) (st := []) (r := _) (z_MO_here (o := o) (m_thrown := m_thrown) (m_taped := m_taped) (m_length := m_length) (m_out := m_out) (m_wide := m_wide) (m_gathered := m_gathered) (m_sets := m_sets) (m_ranges := m_ranges) (m_nodes := m_nodes) (m_at := m_at) (m_flags := m_flags) (m_fault := m_fault) (m_place := m_place) (m_numbered := m_numbered) (m_depth := m_depth) (m_value := m_value) (m_isNot := m_isNot) (m_least0 := n23) (m_most0 := n23) (m_slot := m_slot) (m_work := m_work) (m_got := m_got) (m_rowMany := m_rowMany) (m_charAt := m_charAt) (m_charWide := m_charWide) (m_trail := m_trail) (m_isMatch := m_isMatch) (m_matchGroups := m_matchGroups) (m_allFrom := m_allFrom) (m_allBefore := m_allBefore) (m_founds := m_founds) (m_pieces := m_pieces) (m_writtenMany := m_writtenMany) (m_templateWide := m_templateWide) (m_tooMuch := m_tooMuch) (A_tape := A_tape) (k := k22) h80 h84 (by omega) (by omega) jtp (by omega)) (fun oc G2 h => by rcases h with ⟨h, _⟩ | ⟨h, _⟩ <;> exact ⟨_, h⟩) (by omega) m_MO_here ml_MO_297 im_MO_here se_MO_here c_MO h80.2.2 (Nat.le_of_ble_eq_true rfl) d_MO_numbersEnd_160 rfl ?_
          intro v G36 hq
          rcases hq with ⟨hv, hGe, hq37⟩ | ⟨hv, hGe, hq38⟩
          · cases hv
            rw [hGe]
            change ab_W _ _ _ G8 163 [some (vR 80), some (vz k22), some (vz n23), none] [vz (A_tape (m_at + k22))] _
            exfalso; omega
          · cases hv
            rw [hGe]
            change ab_W _ _ _ G8 163 [some (vR 80), some (vz k22), some (vz n23), none] [vz (-1)] _
            refine zz_bipush d_MO_numbersEnd_163 (by decide) ?_
            refine zz_icmp_ne (tgt := 174) d_MO_numbersEnd_165 (by decide) (by decide) (by decide) (fun c39 => ?_) (fun c39 => absurd c39 (by decide))
            refine zz_iconst d_MO_numbersEnd_174 ?_
            refine zz_iret rfl d_MO_numbersEnd_175 ?_
            rw [hQ]; exact (Or.inl ⟨_, _, rfl, hfr, hlen, hsl, h80⟩)
      · refine zz_iconst d_MO_numbersEnd_59 ?_
        refine zz_iret rfl d_MO_numbersEnd_60 ?_
        rw [hQ]; exact (Or.inl ⟨_, _, rfl, hfr, hlen, hsl, h80⟩)
set_option maxRecDepth 100000 in
set_option maxHeartbeats 4000000 in
theorem z_MO_readRepeat {X : ab_X} {d : Nat} {o : Nat → Nat} {G : ab_G} {m_thrown : Int} {m_taped : Int} {m_length : Int} {m_out : Int} {m_wide : Int} {m_gathered : Int} {m_sets : Int} {m_ranges : Int} {m_nodes : Int} {m_at : Int} {m_flags : Int} {m_fault : Int} {m_place : Int} {m_numbered : Int} {m_depth : Int} {m_value : Int} {m_isNot : Int} {m_least0 : Int} {m_most0 : Int} {m_slot : Int} {m_work : Int} {m_got : Int} {m_rowMany : Int} {m_charAt : Int} {m_charWide : Int} {m_trail : Int} {m_isMatch : Int} {m_matchGroups : Int} {m_allFrom : Int} {m_allBefore : Int} {m_founds : Int} {m_pieces : Int} {m_writtenMany : Int} {m_templateWide : Int} {m_tooMuch : Int} {A_tape : Int → Int} {LO : Int → Int} {HI : Int → Int} {MK : Int → Int} {RL : Int → Int} {RH : Int → Int} {NS : Int → Int} {NM : Int → Int} {be : Int} (h80 : cc o G 80 280 (ab_ob 12 (mof m_thrown m_taped m_length m_out m_wide m_gathered m_sets m_ranges m_nodes m_at m_flags m_fault m_place m_numbered m_depth m_value m_isNot m_least0 m_most0 m_slot m_work m_got m_rowMany m_charAt m_charWide m_trail m_isMatch m_matchGroups m_allFrom m_allBefore m_founds m_pieces m_writtenMany m_templateWide m_tooMuch))) (h84 : cc o G 84 284 (za 2000 A_tape)) (h87 : cc o G 87 287 (za 9000 LO)) (h88 : cc o G 88 288 (za 9000 HI)) (h93 : cc o G 93 293 (zb 1200 MK)) (h81 : cc o G 81 281 (za 13 tbA)) (h82 : cc o G 82 282 (za 66 tbT)) (h91 : cc o G 91 291 (za 24000 RL)) (h92 : cc o G 92 292 (za 24000 RH)) (h110 : cc o G 110 310 (za 120 NS)) (h111 : cc o G 111 311 (za 10 NM)) (ptrI_0 : trI o G 0 m_nodes m_sets (m_depth + 1) (-1) 0 0) (n18 : ab_n0 = 18) (cta : 0 ≤ m_taped ∧ m_taped ≤ 2000) (jtp : rgs A_tape 2000 0 255) (jmk : rgs MK 1200 0 1) (jrl : rgs RL 24000 0 1114111) (jrh : rgs RH 24000 0 1114111) (jns : rgs NS 120 0 255) (jnm : rgs NM 10 0 12) (cf : m_fault = 0) (cat : 0 ≤ m_at ∧ m_at < m_taped) (cpo : 0 ≤ m_nodes ∧ m_nodes + 2 * m_depth + 0 ≤ 2 * m_at ∧ 0 ≤ m_sets ∧ m_sets + 0 ≤ m_at ∧ 0 ≤ m_ranges ∧ m_ranges + 0 ≤ 12 * m_at ∧ 0 ≤ m_depth ∧ m_depth ≤ 30 ∧ 0 ≤ m_numbered ∧ m_numbered ≤ 9 ∧ -2147483648 ≤ m_flags ∧ m_flags ≤ 2147483647 ∧ -2147483648 ≤ m_value ∧ m_value ≤ 2147483647) (cbe : 1 ≤ be ∧ m_at + be ≤ m_taped ∧ 0 ≤ m_least0 ∧ m_least0 ≤ 10000 ∧ -1 ≤ m_most0 ∧ m_most0 ≤ 10000) (hd : 4 ≤ d) : ab_F X d y_MO_readRepeat (.code y_MO_readRepeat b_MO_readRepeat 4 none) [vR 80, vz be] G (fun oc G2 => (∃ a2 : Int, ∃ v2 : Int, ∃ nt2 : Int, ∃ w2 : Int, ∃ g2 : Int, ∃ s2 : Int, ∃ r2 : Int, ∃ n2 : Int, ∃ fl2 : Int, ∃ nu2 : Int, ∃ d2 : Int, ∃ le2 : Int, ∃ mo2 : Int, ∃ f2 : Int, ∃ p2 : Int, ∃ LO2 : Int → Int, ∃ HI2 : Int → Int, ∃ MK2 : Int → Int, ∃ RL2 : Int → Int, ∃ RH2 : Int → Int, ∃ NS2 : Int → Int, ∃ NM2 : Int → Int, oc = .returned none ∧ fx o o [280, 287, 288, 293, 291, 292, 310, 311, 294, 295, 296, 297, 298, 299, 300, 301, 290, 289, 305, 306, 307, 308, 309, 302, 303, 304] G G2 ∧ G2.length = G.length ∧ ab_slots G2 = ab_slots G ∧ cc o G2 80 280 (ab_ob 12 (mof m_thrown m_taped m_length m_out w2 g2 s2 r2 n2 a2 fl2 f2 p2 nu2 d2 v2 nt2 le2 mo2 m_slot m_work m_got m_rowMany m_charAt m_charWide m_trail m_isMatch m_matchGroups m_allFrom m_allBefore m_founds m_pieces m_writtenMany m_templateWide m_tooMuch)) ∧ cc o G2 87 287 (za 9000 LO2) ∧ cc o G2 88 288 (za 9000 HI2) ∧ cc o G2 93 293 (zb 1200 MK2) ∧ cc o G2 91 291 (za 24000 RL2) ∧ cc o G2 92 292 (za 24000 RH2) ∧ cc o G2 110 310 (za 120 NS2) ∧ cc o G2 111 311 (za 10 NM2) ∧ trI o G2 0 n2 s2 (d2 + 1) (-1) 0 0 ∧ (f2 = 0 ∧ m_at < a2 ∧ a2 ≤ m_taped ∧ 0 ≤ n2 ∧ n2 + 2 * d2 ≤ 2 * a2 ∧ 0 ≤ s2 ∧ s2 ≤ a2 ∧ 0 ≤ r2 ∧ r2 ≤ 12 * a2 ∧ 0 ≤ d2 ∧ d2 ≤ 30 ∧ 0 ≤ nu2 ∧ nu2 ≤ 9 ∧ -2147483648 ≤ fl2 ∧ fl2 ≤ 2147483647 ∧ -2147483648 ≤ v2 ∧ v2 ≤ 2147483647) ∧ (rgs MK2 1200 0 1) ∧ (rgs RL2 24000 0 1114111) ∧ (rgs RH2 24000 0 1114111) ∧ (rgs NS2 120 0 255) ∧ (rgs NM2 10 0 12)) ∨ (∃ a2 : Int, ∃ v2 : Int, ∃ nt2 : Int, ∃ w2 : Int, ∃ g2 : Int, ∃ s2 : Int, ∃ r2 : Int, ∃ n2 : Int, ∃ fl2 : Int, ∃ nu2 : Int, ∃ d2 : Int, ∃ le2 : Int, ∃ mo2 : Int, ∃ f2 : Int, ∃ p2 : Int, ∃ LO2 : Int → Int, ∃ HI2 : Int → Int, ∃ MK2 : Int → Int, ∃ RL2 : Int → Int, ∃ RH2 : Int → Int, ∃ NS2 : Int → Int, ∃ NM2 : Int → Int, oc = .returned none ∧ fx o o [280, 287, 288, 293, 291, 292, 310, 311, 294, 295, 296, 297, 298, 299, 300, 301, 290, 289, 305, 306, 307, 308, 309, 302, 303, 304] G G2 ∧ G2.length = G.length ∧ ab_slots G2 = ab_slots G ∧ cc o G2 80 280 (ab_ob 12 (mof m_thrown m_taped m_length m_out w2 g2 s2 r2 n2 a2 fl2 f2 p2 nu2 d2 v2 nt2 le2 mo2 m_slot m_work m_got m_rowMany m_charAt m_charWide m_trail m_isMatch m_matchGroups m_allFrom m_allBefore m_founds m_pieces m_writtenMany m_templateWide m_tooMuch)) ∧ cc o G2 87 287 (za 9000 LO2) ∧ cc o G2 88 288 (za 9000 HI2) ∧ cc o G2 93 293 (zb 1200 MK2) ∧ cc o G2 91 291 (za 24000 RL2) ∧ cc o G2 92 292 (za 24000 RH2) ∧ cc o G2 110 310 (za 120 NS2) ∧ cc o G2 111 311 (za 10 NM2) ∧ trI o G2 0 n2 s2 (d2 + 1) (-1) 0 0 ∧ (1 ≤ f2 ∧ f2 ≤ 14 ∧ 0 ≤ a2 ∧ a2 ≤ 4000 ∧ 0 ≤ n2 ∧ n2 ≤ 4200 ∧ 0 ≤ s2 ∧ s2 ≤ 2100 ∧ 0 ≤ r2 ∧ r2 ≤ 24000 ∧ 0 ≤ d2 ∧ d2 ≤ 30 ∧ 0 ≤ nu2 ∧ nu2 ≤ 9 ∧ -2147483648 ≤ fl2 ∧ fl2 ≤ 2147483647 ∧ -2147483648 ≤ v2 ∧ v2 ≤ 2147483647) ∧ (rgs MK2 1200 0 1) ∧ (rgs RL2 24000 0 1114111) ∧ (rgs RH2 24000 0 1114111) ∧ (rgs NS2 120 0 255) ∧ (rgs NM2 10 0 12))) := by
  refine ab_F_of (by decide +kernel) (Nat.le_of_ble_eq_true rfl) ?_
  obtain ⟨Q, hQ⟩ : ∃ z : Outcome → ab_G → Prop, z = (fun oc G2 => (∃ a2 : Int, ∃ v2 : Int, ∃ nt2 : Int, ∃ w2 : Int, ∃ g2 : Int, ∃ s2 : Int, ∃ r2 : Int, ∃ n2 : Int, ∃ fl2 : Int, ∃ nu2 : Int, ∃ d2 : Int, ∃ le2 : Int, ∃ mo2 : Int, ∃ f2 : Int, ∃ p2 : Int, ∃ LO2 : Int → Int, ∃ HI2 : Int → Int, ∃ MK2 : Int → Int, ∃ RL2 : Int → Int, ∃ RH2 : Int → Int, ∃ NS2 : Int → Int, ∃ NM2 : Int → Int, oc = .returned none ∧ fx o o [280, 287, 288, 293, 291, 292, 310, 311, 294, 295, 296, 297, 298, 299, 300, 301, 290, 289, 305, 306, 307, 308, 309, 302, 303, 304] G G2 ∧ G2.length = G.length ∧ ab_slots G2 = ab_slots G ∧ cc o G2 80 280 (ab_ob 12 (mof m_thrown m_taped m_length m_out w2 g2 s2 r2 n2 a2 fl2 f2 p2 nu2 d2 v2 nt2 le2 mo2 m_slot m_work m_got m_rowMany m_charAt m_charWide m_trail m_isMatch m_matchGroups m_allFrom m_allBefore m_founds m_pieces m_writtenMany m_templateWide m_tooMuch)) ∧ cc o G2 87 287 (za 9000 LO2) ∧ cc o G2 88 288 (za 9000 HI2) ∧ cc o G2 93 293 (zb 1200 MK2) ∧ cc o G2 91 291 (za 24000 RL2) ∧ cc o G2 92 292 (za 24000 RH2) ∧ cc o G2 110 310 (za 120 NS2) ∧ cc o G2 111 311 (za 10 NM2) ∧ trI o G2 0 n2 s2 (d2 + 1) (-1) 0 0 ∧ (f2 = 0 ∧ m_at < a2 ∧ a2 ≤ m_taped ∧ 0 ≤ n2 ∧ n2 + 2 * d2 ≤ 2 * a2 ∧ 0 ≤ s2 ∧ s2 ≤ a2 ∧ 0 ≤ r2 ∧ r2 ≤ 12 * a2 ∧ 0 ≤ d2 ∧ d2 ≤ 30 ∧ 0 ≤ nu2 ∧ nu2 ≤ 9 ∧ -2147483648 ≤ fl2 ∧ fl2 ≤ 2147483647 ∧ -2147483648 ≤ v2 ∧ v2 ≤ 2147483647) ∧ (rgs MK2 1200 0 1) ∧ (rgs RL2 24000 0 1114111) ∧ (rgs RH2 24000 0 1114111) ∧ (rgs NS2 120 0 255) ∧ (rgs NM2 10 0 12)) ∨ (∃ a2 : Int, ∃ v2 : Int, ∃ nt2 : Int, ∃ w2 : Int, ∃ g2 : Int, ∃ s2 : Int, ∃ r2 : Int, ∃ n2 : Int, ∃ fl2 : Int, ∃ nu2 : Int, ∃ d2 : Int, ∃ le2 : Int, ∃ mo2 : Int, ∃ f2 : Int, ∃ p2 : Int, ∃ LO2 : Int → Int, ∃ HI2 : Int → Int, ∃ MK2 : Int → Int, ∃ RL2 : Int → Int, ∃ RH2 : Int → Int, ∃ NS2 : Int → Int, ∃ NM2 : Int → Int, oc = .returned none ∧ fx o o [280, 287, 288, 293, 291, 292, 310, 311, 294, 295, 296, 297, 298, 299, 300, 301, 290, 289, 305, 306, 307, 308, 309, 302, 303, 304] G G2 ∧ G2.length = G.length ∧ ab_slots G2 = ab_slots G ∧ cc o G2 80 280 (ab_ob 12 (mof m_thrown m_taped m_length m_out w2 g2 s2 r2 n2 a2 fl2 f2 p2 nu2 d2 v2 nt2 le2 mo2 m_slot m_work m_got m_rowMany m_charAt m_charWide m_trail m_isMatch m_matchGroups m_allFrom m_allBefore m_founds m_pieces m_writtenMany m_templateWide m_tooMuch)) ∧ cc o G2 87 287 (za 9000 LO2) ∧ cc o G2 88 288 (za 9000 HI2) ∧ cc o G2 93 293 (zb 1200 MK2) ∧ cc o G2 91 291 (za 24000 RL2) ∧ cc o G2 92 292 (za 24000 RH2) ∧ cc o G2 110 310 (za 120 NS2) ∧ cc o G2 111 311 (za 10 NM2) ∧ trI o G2 0 n2 s2 (d2 + 1) (-1) 0 0 ∧ (1 ≤ f2 ∧ f2 ≤ 14 ∧ 0 ≤ a2 ∧ a2 ≤ 4000 ∧ 0 ≤ n2 ∧ n2 ≤ 4200 ∧ 0 ≤ s2 ∧ s2 ≤ 2100 ∧ 0 ≤ r2 ∧ r2 ≤ 24000 ∧ 0 ≤ d2 ∧ d2 ≤ 30 ∧ 0 ≤ nu2 ∧ nu2 ≤ 9 ∧ -2147483648 ≤ fl2 ∧ fl2 ≤ 2147483647 ∧ -2147483648 ≤ v2 ∧ v2 ≤ 2147483647) ∧ (rgs MK2 1200 0 1) ∧ (rgs RL2 24000 0 1114111) ∧ (rgs RH2 24000 0 1114111) ∧ (rgs NS2 120 0 255) ∧ (rgs NM2 10 0 12))) := ⟨_, rfl⟩
  rw [← hQ]
  change ab_W X (ab_pl y_MO_readRepeat b_MO_readRepeat 4 none) d G 0 [some (vR 80), some (vz be), none, none] [] Q
  have hfr : fx o o [280, 287, 288, 293, 291, 292, 310, 311, 294, 295, 296, 297, 298, 299, 300, 301, 290, 289, 305, 306, 307, 308, 309, 302, 303, 304] G G := fx.rf
  have hlen : G.length = G.length := rfl
  have hsl : ab_slots G = ab_slots G := rfl
  refine ab_aload_n d_MO_readRepeat_0 rfl ?_
  refine ab_getf (fs := mof m_thrown m_taped m_length m_out m_wide m_gathered m_sets m_ranges m_nodes m_at m_flags m_fault m_place m_numbered m_depth m_value m_isNot m_least0 m_most0 m_slot m_work m_got m_rowMany m_charAt m_charWide m_trail m_isMatch m_matchGroups m_allFrom m_allBefore m_founds m_pieces m_writtenMany m_templateWide m_tooMuch) f_MO_279 d_MO_readRepeat_1 h80.2.2 rfl ?_
  refine ab_istore_n d_MO_readRepeat_4 (Nat.le_of_ble_eq_true rfl) (Nat.le_of_ble_eq_true rfl) rfl ?_
  change ab_W _ _ _ G 5 [some (vR 80), some (vz be), some (vz m_at), none] [] _
  obtain ⟨K, O, Fi, Be, Le, Mo, Z, LZ, SM, SA, QF, QL, AF, AL, SD, OA, OF, ON, h94, h95, h96, h97, h98, h99, h100, h101, h90, h89, h105, h106, h107, h108, h109, h102, h103, h104, jk, jo, jfi, jbe, jle, jmo, jz, jlz, jsm, jsa, jqf, jql, jaf, jal, jsd, joa, jof, jon, jt, cnd, cre, crs, crz, ck5, ck6, jss⟩ := ptrI_0
  refine ab_aload_n d_MO_readRepeat_5 rfl ?_
  refine ab_getf (fs := mof m_thrown m_taped m_length m_out m_wide m_gathered m_sets m_ranges m_nodes m_at m_flags m_fault m_place m_numbered m_depth m_value m_isNot m_least0 m_most0 m_slot m_work m_got m_rowMany m_charAt m_charWide m_trail m_isMatch m_matchGroups m_allFrom m_allBefore m_founds m_pieces m_writtenMany m_templateWide m_tooMuch) f_MO_100 d_MO_readRepeat_6 h80.2.2 rfl ?_
  refine ab_aload_n d_MO_readRepeat_9 rfl ?_
  refine ab_getf (fs := mof m_thrown m_taped m_length m_out m_wide m_gathered m_sets m_ranges m_nodes m_at m_flags m_fault m_place m_numbered m_depth m_value m_isNot m_least0 m_most0 m_slot m_work m_got m_rowMany m_charAt m_charWide m_trail m_isMatch m_matchGroups m_allFrom m_allBefore m_founds m_pieces m_writtenMany m_templateWide m_tooMuch) f_MO_282 d_MO_readRepeat_10 h80.2.2 rfl ?_
  refine zz_iald d_MO_readRepeat_13 h109 (by omega) ?_
  have hq1 := jsd m_depth (by omega) (by omega)
  refine zz_iconst d_MO_readRepeat_14 ?_
  refine zz_icmp_eq (tgt := 28) d_MO_readRepeat_15 (by decide) (by omega) (by decide) (fun c2 => ?_) (fun c2 => ?_)
  · refine ab_aload_n d_MO_readRepeat_28 rfl ?_
    refine ab_getf (fs := mof m_thrown m_taped m_length m_out m_wide m_gathered m_sets m_ranges m_nodes m_at m_flags m_fault m_place m_numbered m_depth m_value m_isNot m_least0 m_most0 m_slot m_work m_got m_rowMany m_charAt m_charWide m_trail m_isMatch m_matchGroups m_allFrom m_allBefore m_founds m_pieces m_writtenMany m_templateWide m_tooMuch) f_MO_403 d_MO_readRepeat_29 h80.2.2 rfl ?_
    refine zz_bipush d_MO_readRepeat_32 (by decide) ?_
    refine zz_icmp_gt (tgt := 64) d_MO_readRepeat_34 (by decide) (by omega) (by decide) (fun c3 => ?_) (fun c3 => ?_)
    · refine ab_aload_n d_MO_readRepeat_64 rfl ?_
      refine zz_bipush d_MO_readRepeat_65 (by decide) ?_
      refine ab_iload_n d_MO_readRepeat_67 rfl ?_
      refine ab_callV (d' := d - 1) (as := [vz 9, vz m_at]) (st := []) (r := _) (z_MO_wrong (o := o) (m_thrown := m_thrown) (m_taped := m_taped) (m_length := m_length) (m_out := m_out) (m_wide := m_wide) (m_gathered := m_gathered) (m_sets := m_sets) (m_ranges := m_ranges) (m_nodes := m_nodes) (m_at := m_at) (m_flags := m_flags) (m_fault := m_fault) (m_place := m_place) (m_numbered := m_numbered) (m_depth := m_depth) (m_value := m_value) (m_isNot := m_isNot) (m_least0 := m_least0) (m_most0 := m_most0) (m_slot := m_slot) (m_work := m_work) (m_got := m_got) (m_rowMany := m_rowMany) (m_charAt := m_charAt) (m_charWide := m_charWide) (m_trail := m_trail) (m_isMatch := m_isMatch) (m_matchGroups := m_matchGroups) (m_allFrom := m_allFrom) (m_allBefore := m_allBefore) (m_founds := m_founds) (m_pieces := m_pieces) (m_writtenMany := m_writtenMany) (m_templateWide := m_templateWide) (m_tooMuch := m_tooMuch) (x := 9) (y := m_at) h80 (by omega) (by omega)) (fun oc G2 h => by rcases h with ⟨_, _, h, _⟩ <;> exact ⟨_, h⟩) (by omega) m_MO_wrong ml_MO_304 im_MO_wrong se_MO_wrong c_MO h80.2.2 (Nat.le_of_ble_eq_true rfl) d_MO_readRepeat_68 rfl ?_
      intro v G4 hq
      rcases hq with ⟨f25, p26, hv, hfk, hlk, hsk, hN80, hq7⟩
      cases hv
      have h84 := hfk.get h84 (by decide)
      have h87 := hfk.get h87 (by decide)
      have h88 := hfk.get h88 (by decide)
      have h93 := hfk.get h93 (by decide)
      have h81 := hfk.get h81 (by decide)
      have h82 := hfk.get h82 (by decide)
      have h91 := hfk.get h91 (by decide)
      have h92 := hfk.get h92 (by decide)
      have h110 := hfk.get h110 (by decide)
      have h111 := hfk.get h111 (by decide)
      have h94 := hfk.get h94 (by decide)
      have h95 := hfk.get h95 (by decide)
      have h96 := hfk.get h96 (by decide)
      have h97 := hfk.get h97 (by decide)
      have h98 := hfk.get h98 (by decide)
      have h99 := hfk.get h99 (by decide)
      have h100 := hfk.get h100 (by decide)
      have h101 := hfk.get h101 (by decide)
      have h90 := hfk.get h90 (by decide)
      have h89 := hfk.get h89 (by decide)
      have h105 := hfk.get h105 (by decide)
      have h106 := hfk.get h106 (by decide)
      have h107 := hfk.get h107 (by decide)
      have h108 := hfk.get h108 (by decide)
      have h109 := hfk.get h109 (by decide)
      have h102 := hfk.get h102 (by decide)
      have h103 := hfk.get h103 (by decide)
      have h104 := hfk.get h104 (by decide)
      have hfr := hfr.tr hfk (by decide)
      have hlen := hlk.trans hlen
      have hsl := hsk.trans hsl
      have h80 := hN80
      change ab_W _ _ _ G4 71 [some (vR 80), some (vz be), some (vz m_at), none] [] _
      refine ab_aload_n d_MO_readRepeat_71 rfl ?_
      refine ab_getf (fs := mof m_thrown m_taped m_length m_out m_wide m_gathered m_sets m_ranges m_nodes m_at m_flags f25 p26 m_numbered m_depth m_value m_isNot m_least0 m_most0 m_slot m_work m_got m_rowMany m_charAt m_charWide m_trail m_isMatch m_matchGroups m_allFrom m_allBefore m_founds m_pieces m_writtenMany m_templateWide m_tooMuch) f_MO_273 d_MO_readRepeat_72 h80.2.2 rfl ?_
      refine zz_if_le (tgt := 79) d_MO_readRepeat_75 (by decide) (by omega) (fun c8 => absurd c8 (by omega)) (fun c8 => ?_)
      have ptrI_0 : trI o G4 0 m_nodes m_sets (m_depth + 1) (-1) 0 0 := ⟨K, O, Fi, Be, Le, Mo, Z, LZ, SM, SA, QF, QL, AF, AL, SD, OA, OF, ON, h94, h95, h96, h97, h98, h99, h100, h101, h90, h89, h105, h106, h107, h108, h109, h102, h103, h104, jk, jo, jfi, jbe, jle, jmo, jz, jlz, jsm, jsa, jqf, jql, jaf, jal, jsd, joa, jof, jon, jt, (by omega), (fun h => absurd h (by decide)), (fun h => absurd h (by decide)), (fun h => absurd h (by decide)), (fun h => absurd h (by decide)), (fun h => absurd h (by decide)), jss⟩
      refine ab_vret rfl d_MO_readRepeat_78 ?_
      rw [hQ]; exact (Or.inr ⟨_, _, _, _, _, _, _, _, _, _, _, _, _, _, _, _, _, _, _, _, _, _, rfl, hfr, hlen, hsl, h80, h87, h88, h93, h91, h92, h110, h111, ptrI_0, (by omega), (by first | exact jmk | exact rgs_w jmk (by omega)), (by first | exact jrl | exact rgs_w jrl (by omega)), (by first | exact jrh | exact rgs_w jrh (by omega)), (by first | exact jns | exact rgs_w jns (by omega)), (by first | exact jnm | exact rgs_w jnm (by omega))⟩)
    · refine ab_aload_n d_MO_readRepeat_37 rfl ?_
      refine ab_getf (fs := mof m_thrown m_taped m_length m_out m_wide m_gathered m_sets m_ranges m_nodes m_at m_flags m_fault m_place m_numbered m_depth m_value m_isNot m_least0 m_most0 m_slot m_work m_got m_rowMany m_charAt m_charWide m_trail m_isMatch m_matchGroups m_allFrom m_allBefore m_founds m_pieces m_writtenMany m_templateWide m_tooMuch) f_MO_406 d_MO_readRepeat_38 h80.2.2 rfl ?_
      refine zz_bipush d_MO_readRepeat_41 (by decide) ?_
      refine zz_icmp_gt (tgt := 64) d_MO_readRepeat_43 (by decide) (by omega) (by decide) (fun c9 => ?_) (fun c9 => ?_)
      · refine ab_aload_n d_MO_readRepeat_64 rfl ?_
        refine zz_bipush d_MO_readRepeat_65 (by decide) ?_
        refine ab_iload_n d_MO_readRepeat_67 rfl ?_
        refine ab_callV (d' := d - 1) (as := [vz 9, vz m_at]) (st := []) (r := _) (z_MO_wrong (o := o) (m_thrown := m_thrown) (m_taped := m_taped) (m_length := m_length) (m_out := m_out) (m_wide := m_wide) (m_gathered := m_gathered) (m_sets := m_sets) (m_ranges := m_ranges) (m_nodes := m_nodes) (m_at := m_at) (m_flags := m_flags) (m_fault := m_fault) (m_place := m_place) (m_numbered := m_numbered) (m_depth := m_depth) (m_value := m_value) (m_isNot := m_isNot) (m_least0 := m_least0) (m_most0 := m_most0) (m_slot := m_slot) (m_work := m_work) (m_got := m_got) (m_rowMany := m_rowMany) (m_charAt := m_charAt) (m_charWide := m_charWide) (m_trail := m_trail) (m_isMatch := m_isMatch) (m_matchGroups := m_matchGroups) (m_allFrom := m_allFrom) (m_allBefore := m_allBefore) (m_founds := m_founds) (m_pieces := m_pieces) (m_writtenMany := m_writtenMany) (m_templateWide := m_templateWide) (m_tooMuch := m_tooMuch) (x := 9) (y := m_at) h80 (by omega) (by omega)) (fun oc G2 h => by rcases h with ⟨_, _, h, _⟩ <;> exact ⟨_, h⟩) (by omega) m_MO_wrong ml_MO_304 im_MO_wrong se_MO_wrong c_MO h80.2.2 (Nat.le_of_ble_eq_true rfl) d_MO_readRepeat_68 rfl ?_
        intro v G10 hq
        rcases hq with ⟨f211, p212, hv, hfk, hlk, hsk, hN80, hq13⟩
        cases hv
        have h84 := hfk.get h84 (by decide)
        have h87 := hfk.get h87 (by decide)
        have h88 := hfk.get h88 (by decide)
        have h93 := hfk.get h93 (by decide)
        have h81 := hfk.get h81 (by decide)
        have h82 := hfk.get h82 (by decide)
        have h91 := hfk.get h91 (by decide)
        have h92 := hfk.get h92 (by decide)
        have h110 := hfk.get h110 (by decide)
        have h111 := hfk.get h111 (by decide)
        have h94 := hfk.get h94 (by decide)
        have h95 := hfk.get h95 (by decide)
        have h96 := hfk.get h96 (by decide)
        have h97 := hfk.get h97 (by decide)
        have h98 := hfk.get h98 (by decide)
        have h99 := hfk.get h99 (by decide)
        have h100 := hfk.get h100 (by decide)
        have h101 := hfk.get h101 (by decide)
        have h90 := hfk.get h90 (by decide)
        have h89 := hfk.get h89 (by decide)
        have h105 := hfk.get h105 (by decide)
        have h106 := hfk.get h106 (by decide)
        have h107 := hfk.get h107 (by decide)
        have h108 := hfk.get h108 (by decide)
        have h109 := hfk.get h109 (by decide)
        have h102 := hfk.get h102 (by decide)
        have h103 := hfk.get h103 (by decide)
        have h104 := hfk.get h104 (by decide)
        have hfr := hfr.tr hfk (by decide)
        have hlen := hlk.trans hlen
        have hsl := hsk.trans hsl
        have h80 := hN80
        change ab_W _ _ _ G10 71 [some (vR 80), some (vz be), some (vz m_at), none] [] _
        refine ab_aload_n d_MO_readRepeat_71 rfl ?_
        refine ab_getf (fs := mof m_thrown m_taped m_length m_out m_wide m_gathered m_sets m_ranges m_nodes m_at m_flags f211 p212 m_numbered m_depth m_value m_isNot m_least0 m_most0 m_slot m_work m_got m_rowMany m_charAt m_charWide m_trail m_isMatch m_matchGroups m_allFrom m_allBefore m_founds m_pieces m_writtenMany m_templateWide m_tooMuch) f_MO_273 d_MO_readRepeat_72 h80.2.2 rfl ?_
        refine zz_if_le (tgt := 79) d_MO_readRepeat_75 (by decide) (by omega) (fun c14 => absurd c14 (by omega)) (fun c14 => ?_)
        have ptrI_0 : trI o G10 0 m_nodes m_sets (m_depth + 1) (-1) 0 0 := ⟨K, O, Fi, Be, Le, Mo, Z, LZ, SM, SA, QF, QL, AF, AL, SD, OA, OF, ON, h94, h95, h96, h97, h98, h99, h100, h101, h90, h89, h105, h106, h107, h108, h109, h102, h103, h104, jk, jo, jfi, jbe, jle, jmo, jz, jlz, jsm, jsa, jqf, jql, jaf, jal, jsd, joa, jof, jon, jt, (by omega), (fun h => absurd h (by decide)), (fun h => absurd h (by decide)), (fun h => absurd h (by decide)), (fun h => absurd h (by decide)), (fun h => absurd h (by decide)), jss⟩
        refine ab_vret rfl d_MO_readRepeat_78 ?_
        rw [hQ]; exact (Or.inr ⟨_, _, _, _, _, _, _, _, _, _, _, _, _, _, _, _, _, _, _, _, _, _, rfl, hfr, hlen, hsl, h80, h87, h88, h93, h91, h92, h110, h111, ptrI_0, (by omega), (by first | exact jmk | exact rgs_w jmk (by omega)), (by first | exact jrl | exact rgs_w jrl (by omega)), (by first | exact jrh | exact rgs_w jrh (by omega)), (by first | exact jns | exact rgs_w jns (by omega)), (by first | exact jnm | exact rgs_w jnm (by omega))⟩)
      · refine ab_aload_n d_MO_readRepeat_46 rfl ?_
        refine ab_getf (fs := mof m_thrown m_taped m_length m_out m_wide m_gathered m_sets m_ranges m_nodes m_at m_flags m_fault m_place m_numbered m_depth m_value m_isNot m_least0 m_most0 m_slot m_work m_got m_rowMany m_charAt m_charWide m_trail m_isMatch m_matchGroups m_allFrom m_allBefore m_founds m_pieces m_writtenMany m_templateWide m_tooMuch) f_MO_406 d_MO_readRepeat_47 h80.2.2 rfl ?_
        refine zz_if_lt (tgt := 71) d_MO_readRepeat_50 (by decide) (by omega) (fun c15 => ?_) (fun c15 => ?_)
        · refine ab_aload_n d_MO_readRepeat_71 rfl ?_
          refine ab_getf (fs := mof m_thrown m_taped m_length m_out m_wide m_gathered m_sets m_ranges m_nodes m_at m_flags m_fault m_place m_numbered m_depth m_value m_isNot m_least0 m_most0 m_slot m_work m_got m_rowMany m_charAt m_charWide m_trail m_isMatch m_matchGroups m_allFrom m_allBefore m_founds m_pieces m_writtenMany m_templateWide m_tooMuch) f_MO_273 d_MO_readRepeat_72 h80.2.2 rfl ?_
          refine zz_if_le (tgt := 79) d_MO_readRepeat_75 (by decide) (by omega) (fun c16 => ?_) (fun c16 => absurd c16 (by omega))
          have ptrI_0 : trI o G 0 m_nodes m_sets (m_depth + 1) (-1) 0 2 := ⟨K, O, Fi, Be, Le, Mo, Z, LZ, SM, SA, QF, QL, AF, AL, SD, OA, OF, ON, h94, h95, h96, h97, h98, h99, h100, h101, h90, h89, h105, h106, h107, h108, h109, h102, h103, h104, jk, jo, jfi, jbe, jle, jmo, jz, jlz, jsm, jsa, jqf, jql, jaf, jal, jsd, joa, jof, jon, jt, (by omega), (fun h => absurd h (by decide)), (fun _ => by rw [show m_depth + 1 - 1 = m_depth by omega]; omega), (fun h => absurd h (by decide)), (fun h => absurd h (by decide)), (fun h => absurd h (by decide)), jss⟩
          refine ab_aload_n d_MO_readRepeat_79 rfl ?_
          refine ab_dup d_MO_readRepeat_80 rfl ?_
          refine ab_getf (fs := mof m_thrown m_taped m_length m_out m_wide m_gathered m_sets m_ranges m_nodes m_at m_flags m_fault m_place m_numbered m_depth m_value m_isNot m_least0 m_most0 m_slot m_work m_got m_rowMany m_charAt m_charWide m_trail m_isMatch m_matchGroups m_allFrom m_allBefore m_founds m_pieces m_writtenMany m_templateWide m_tooMuch) f_MO_279 d_MO_readRepeat_81 h80.2.2 rfl ?_
          refine ab_iload_n d_MO_readRepeat_84 rfl ?_
          refine zz_iadd d_MO_readRepeat_85 ?_
          refine ab_putf (fs := mof m_thrown m_taped m_length m_out m_wide m_gathered m_sets m_ranges m_nodes m_at m_flags m_fault m_place m_numbered m_depth m_value m_isNot m_least0 m_most0 m_slot m_work m_got m_rowMany m_charAt m_charWide m_trail m_isMatch m_matchGroups m_allFrom m_allBefore m_founds m_pieces m_writtenMany m_templateWide m_tooMuch) f_MO_279 (Or.inl rfl) d_MO_readRepeat_86 h80.2.2 (Nat.le_of_ble_eq_true rfl) (fun _ => ⟨rfl, rfl⟩) (h80.2.1 (by decide)) ?_
          obtain ⟨G17, eG17⟩ : ∃ z : ab_G, z = List.set G 80 (ab_ob 12 (mof m_thrown m_taped m_length m_out m_wide m_gathered m_sets m_ranges m_nodes (m_at + be) m_flags m_fault m_place m_numbered m_depth m_value m_isNot m_least0 m_most0 m_slot m_work m_got m_rowMany m_charAt m_charWide m_trail m_isMatch m_matchGroups m_allFrom m_allBefore m_founds m_pieces m_writtenMany m_templateWide m_tooMuch)) := ⟨_, rfl⟩
          have h84 := h84.keep h80 eG17 (by decide)
          have h87 := h87.keep h80 eG17 (by decide)
          have h88 := h88.keep h80 eG17 (by decide)
          have h93 := h93.keep h80 eG17 (by decide)
          have h81 := h81.keep h80 eG17 (by decide)
          have h82 := h82.keep h80 eG17 (by decide)
          have h91 := h91.keep h80 eG17 (by decide)
          have h92 := h92.keep h80 eG17 (by decide)
          have h110 := h110.keep h80 eG17 (by decide)
          have h111 := h111.keep h80 eG17 (by decide)
          have hst := (fx.rf (o := o) (S := [280]) (G := G)).wr h80 eG17 (List.mem_singleton.mpr rfl)
          have ptrI_0 := trI.fr hst ptrI_0 (by decide) (by decide) (by decide) (by decide) (by decide) (by decide) (by decide) (by decide) (by decide) (by decide) (by decide) (by decide) (by decide) (by decide) (by decide) (by decide) (by decide) (by decide)
          have hlen := (z_len eG17).trans hlen
          have hsl := (z_sl h80 eG17 rfl).trans hsl
          have hfr := hfr.wr h80 eG17 (by decide)
          have h80 := h80.kept eG17
          change ab_W _ _ _ (List.set G 80 (ab_ob 12 (mof m_thrown m_taped m_length m_out m_wide m_gathered m_sets m_ranges m_nodes (m_at + be) m_flags m_fault m_place m_numbered m_depth m_value m_isNot m_least0 m_most0 m_slot m_work m_got m_rowMany m_charAt m_charWide m_trail m_isMatch m_matchGroups m_allFrom m_allBefore m_founds m_pieces m_writtenMany m_templateWide m_tooMuch))) 89 [some (vR 80), some (vz be), some (vz m_at), none] [] _
          rw [← eG17]
          refine ab_aload_n d_MO_readRepeat_89 rfl ?_
          refine zz_iconst d_MO_readRepeat_90 ?_
          refine ab_callV (d' := d - 1) (as := [vz 0]) (st := []) (r := _) (z_MO_here (o := o) (m_thrown := m_thrown) (m_taped := m_taped) (m_length := m_length) (m_out := m_out) (m_wide := m_wide) (m_gathered := m_gathered) (m_sets := m_sets) (m_ranges := m_ranges) (m_nodes := m_nodes) (m_at := (m_at + be)) (m_flags := m_flags) (m_fault := m_fault) (m_place := m_place) (m_numbered := m_numbered) (m_depth := m_depth) (m_value := m_value) (m_isNot := m_isNot) (m_least0 := m_least0) (m_most0 := m_most0) (m_slot := m_slot) (m_work := m_work) (m_got := m_got) (m_rowMany := m_rowMany) (m_charAt := m_charAt) (m_charWide := m_charWide) (m_trail := m_trail) (m_isMatch := m_isMatch) (m_matchGroups := m_matchGroups) (m_allFrom := m_allFrom) (m_allBefore := m_allBefore) (m_founds := m_founds) (m_pieces := m_pieces) (m_writtenMany := m_writtenMany) (m_templateWide := m_templateWide) (m_tooMuch := m_tooMuch) (A_tape := A_tape) (k := 0) h80 h84 (by omega) (by omega) jtp (by omega)) (fun oc G2 h => by rcases h with ⟨h, _⟩ | ⟨h, _⟩ <;> exact ⟨_, h⟩) (by omega) m_MO_here ml_MO_297 im_MO_here se_MO_here c_MO h80.2.2 (Nat.le_of_ble_eq_true rfl) d_MO_readRepeat_91 rfl ?_
          intro v G18 hq
          rcases hq with ⟨hv, hGe, hq19⟩ | ⟨hv, hGe, hq20⟩
          · cases hv
            rw [hGe]
            change ab_W _ _ _ G17 94 [some (vR 80), some (vz be), some (vz m_at), none] [vz (A_tape ((m_at + be) + 0))] _
            refine zz_bipush d_MO_readRepeat_94 (by decide) ?_
            refine zz_icmp_ne (tgt := 103) d_MO_readRepeat_96 (by decide) (by omega) (by decide) (fun c21 => ?_) (fun c21 => ?_)
            · refine zz_iconst d_MO_readRepeat_103 ?_
              refine ab_istore_n d_MO_readRepeat_104 (Nat.le_of_ble_eq_true rfl) (Nat.le_of_ble_eq_true rfl) rfl ?_
              change ab_W _ _ _ G17 105 [some (vR 80), some (vz be), some (vz m_at), some (vz 0)] [] _
              refine ab_aload_n d_MO_readRepeat_105 rfl ?_
              refine ab_dup d_MO_readRepeat_106 rfl ?_
              refine ab_getf (fs := mof m_thrown m_taped m_length m_out m_wide m_gathered m_sets m_ranges m_nodes (m_at + be) m_flags m_fault m_place m_numbered m_depth m_value m_isNot m_least0 m_most0 m_slot m_work m_got m_rowMany m_charAt m_charWide m_trail m_isMatch m_matchGroups m_allFrom m_allBefore m_founds m_pieces m_writtenMany m_templateWide m_tooMuch) f_MO_279 d_MO_readRepeat_107 h80.2.2 rfl ?_
              refine ab_iload_n d_MO_readRepeat_110 rfl ?_
              refine zz_if_eq (tgt := 118) d_MO_readRepeat_111 (by decide) (by decide) (fun c22 => ?_) (fun c22 => absurd c22 (by decide))
              refine zz_iconst d_MO_readRepeat_118 ?_
              refine zz_iadd d_MO_readRepeat_119 ?_
              refine ab_putf (fs := mof m_thrown m_taped m_length m_out m_wide m_gathered m_sets m_ranges m_nodes (m_at + be) m_flags m_fault m_place m_numbered m_depth m_value m_isNot m_least0 m_most0 m_slot m_work m_got m_rowMany m_charAt m_charWide m_trail m_isMatch m_matchGroups m_allFrom m_allBefore m_founds m_pieces m_writtenMany m_templateWide m_tooMuch) f_MO_279 (Or.inl rfl) d_MO_readRepeat_120 h80.2.2 (Nat.le_of_ble_eq_true rfl) (fun _ => ⟨rfl, rfl⟩) (h80.2.1 (by decide)) ?_
              obtain ⟨G23, eG23⟩ : ∃ z : ab_G, z = List.set G17 80 (ab_ob 12 (mof m_thrown m_taped m_length m_out m_wide m_gathered m_sets m_ranges m_nodes ((m_at + be) + 0) m_flags m_fault m_place m_numbered m_depth m_value m_isNot m_least0 m_most0 m_slot m_work m_got m_rowMany m_charAt m_charWide m_trail m_isMatch m_matchGroups m_allFrom m_allBefore m_founds m_pieces m_writtenMany m_templateWide m_tooMuch)) := ⟨_, rfl⟩
              have h84 := h84.keep h80 eG23 (by decide)
              have h87 := h87.keep h80 eG23 (by decide)
              have h88 := h88.keep h80 eG23 (by decide)
              have h93 := h93.keep h80 eG23 (by decide)
              have h81 := h81.keep h80 eG23 (by decide)
              have h82 := h82.keep h80 eG23 (by decide)
              have h91 := h91.keep h80 eG23 (by decide)
              have h92 := h92.keep h80 eG23 (by decide)
              have h110 := h110.keep h80 eG23 (by decide)
              have h111 := h111.keep h80 eG23 (by decide)
              have hst := (fx.rf (o := o) (S := [280]) (G := G17)).wr h80 eG23 (List.mem_singleton.mpr rfl)
              have ptrI_0 := trI.fr hst ptrI_0 (by decide) (by decide) (by decide) (by decide) (by decide) (by decide) (by decide) (by decide) (by decide) (by decide) (by decide) (by decide) (by decide) (by decide) (by decide) (by decide) (by decide) (by decide)
              have hlen := (z_len eG23).trans hlen
              have hsl := (z_sl h80 eG23 rfl).trans hsl
              have hfr := hfr.wr h80 eG23 (by decide)
              have h80 := h80.kept eG23
              change ab_W _ _ _ (List.set G17 80 (ab_ob 12 (mof m_thrown m_taped m_length m_out m_wide m_gathered m_sets m_ranges m_nodes ((m_at + be) + 0) m_flags m_fault m_place m_numbered m_depth m_value m_isNot m_least0 m_most0 m_slot m_work m_got m_rowMany m_charAt m_charWide m_trail m_isMatch m_matchGroups m_allFrom m_allBefore m_founds m_pieces m_writtenMany m_templateWide m_tooMuch))) 123 [some (vR 80), some (vz be), some (vz m_at), some (vz 0)] [] _
              rw [← eG23]
              refine ab_aload_n d_MO_readRepeat_123 rfl ?_
              refine ab_aload_n d_MO_readRepeat_124 rfl ?_
              refine ab_getf (fs := mof m_thrown m_taped m_length m_out m_wide m_gathered m_sets m_ranges m_nodes ((m_at + be) + 0) m_flags m_fault m_place m_numbered m_depth m_value m_isNot m_least0 m_most0 m_slot m_work m_got m_rowMany m_charAt m_charWide m_trail m_isMatch m_matchGroups m_allFrom m_allBefore m_founds m_pieces m_writtenMany m_templateWide m_tooMuch) f_MO_403 d_MO_readRepeat_125 h80.2.2 rfl ?_
              refine ab_aload_n d_MO_readRepeat_128 rfl ?_
              refine ab_getf (fs := mof m_thrown m_taped m_length m_out m_wide m_gathered m_sets m_ranges m_nodes ((m_at + be) + 0) m_flags m_fault m_place m_numbered m_depth m_value m_isNot m_least0 m_most0 m_slot m_work m_got m_rowMany m_charAt m_charWide m_trail m_isMatch m_matchGroups m_allFrom m_allBefore m_founds m_pieces m_writtenMany m_templateWide m_tooMuch) f_MO_406 d_MO_readRepeat_129 h80.2.2 rfl ?_
              refine ab_iload_n d_MO_readRepeat_132 rfl ?_
              refine ab_aload_n d_MO_readRepeat_133 rfl ?_
              refine zz_bipush d_MO_readRepeat_134 (by decide) ?_
              refine ab_callV (d' := d - 1) (as := [vz 8]) (st := [vz 0, vz m_most0, vz m_least0, vR 80]) (r := _) (z_MO_has (o := o) (m_thrown := m_thrown) (m_taped := m_taped) (m_length := m_length) (m_out := m_out) (m_wide := m_wide) (m_gathered := m_gathered) (m_sets := m_sets) (m_ranges := m_ranges) (m_nodes := m_nodes) (m_at := ((m_at + be) + 0)) (m_flags := m_flags) (m_fault := m_fault) (m_place := m_place) (m_numbered := m_numbered) (m_depth := m_depth) (m_value := m_value) (m_isNot := m_isNot) (m_least0 := m_least0) (m_most0 := m_most0) (m_slot := m_slot) (m_work := m_work) (m_got := m_got) (m_rowMany := m_rowMany) (m_charAt := m_charAt) (m_charWide := m_charWide) (m_trail := m_trail) (m_isMatch := m_isMatch) (m_matchGroups := m_matchGroups) (m_allFrom := m_allFrom) (m_allBefore := m_allBefore) (m_founds := m_founds) (m_pieces := m_pieces) (m_writtenMany := m_writtenMany) (m_templateWide := m_templateWide) (m_tooMuch := m_tooMuch) (x := 8) h80) (fun oc G2 h => by rcases h with ⟨_, h, _⟩ <;> exact ⟨_, h⟩) (by omega) m_MO_has ml_MO_355 im_MO_has se_MO_has c_MO h80.2.2 (Nat.le_of_ble_eq_true rfl) d_MO_readRepeat_136 rfl ?_
              intro v G24 hq
              rcases hq with ⟨v25, hv, hGe, hq26⟩
              cases hv
              rw [hGe]
              change ab_W _ _ _ G23 139 [some (vR 80), some (vz be), some (vz m_at), some (vz 0)] [vz v25, vz 0, vz m_most0, vz m_least0, vR 80] _
              refine zz_icmp_eq (tgt := 146) d_MO_readRepeat_139 (by decide) (by decide) (by omega) (fun c27 => ?_) (fun c27 => ?_)
              · refine zz_iconst d_MO_readRepeat_146 ?_
                refine ab_callV (d' := d - 1) (as := [vz m_least0, vz m_most0, vz 0]) (st := []) (r := _) (z_MO_repeat (o := o) (m_thrown := m_thrown) (m_taped := m_taped) (m_length := m_length) (m_out := m_out) (m_wide := m_wide) (m_gathered := m_gathered) (m_sets := m_sets) (m_ranges := m_ranges) (m_nodes := m_nodes) (m_at := ((m_at + be) + 0)) (m_flags := m_flags) (m_fault := m_fault) (m_place := m_place) (m_numbered := m_numbered) (m_depth := m_depth) (m_value := m_value) (m_isNot := m_isNot) (m_least0 := m_least0) (m_most0 := m_most0) (m_slot := m_slot) (m_work := m_work) (m_got := m_got) (m_rowMany := m_rowMany) (m_charAt := m_charAt) (m_charWide := m_charWide) (m_trail := m_trail) (m_isMatch := m_isMatch) (m_matchGroups := m_matchGroups) (m_allFrom := m_allFrom) (m_allBefore := m_allBefore) (m_founds := m_founds) (m_pieces := m_pieces) (m_writtenMany := m_writtenMany) (m_templateWide := m_templateWide) (m_tooMuch := m_tooMuch) (le := m_least0) (mo := m_most0) (lz := 0) h80 ptrI_0 (by omega) (by omega) (by omega) (by omega) (by omega) (by omega)) (fun oc G2 h => by rcases h with ⟨h, _⟩ <;> exact ⟨_, h⟩) (by omega) m_MO_repeat ml_MO_409 im_MO_repeat se_MO_repeat c_MO h80.2.2 (Nat.le_of_ble_eq_true rfl) d_MO_readRepeat_147 rfl ?_
                intro v G28 hq
                rcases hq with ⟨hv, hfk, hlk, hsk, hN80, pNtrI_0⟩
                cases hv
                have h84 := hfk.get h84 (by decide)
                have h87 := hfk.get h87 (by decide)
                have h88 := hfk.get h88 (by decide)
                have h93 := hfk.get h93 (by decide)
                have h81 := hfk.get h81 (by decide)
                have h82 := hfk.get h82 (by decide)
                have h91 := hfk.get h91 (by decide)
                have h92 := hfk.get h92 (by decide)
                have h110 := hfk.get h110 (by decide)
                have h111 := hfk.get h111 (by decide)
                have ptrI_0 := pNtrI_0
                have hfr := hfr.tr hfk (by decide)
                have hlen := hlk.trans hlen
                have hsl := hsk.trans hsl
                have h80 := hN80
                change ab_W _ _ _ G28 150 [some (vR 80), some (vz be), some (vz m_at), some (vz 0)] [] _
                refine ab_vret rfl d_MO_readRepeat_150 ?_
                rw [hQ]; exact (Or.inl ⟨_, _, _, _, _, _, _, _, _, _, _, _, _, _, _, _, _, _, _, _, _, _, rfl, hfr, hlen, hsl, h80, h87, h88, h93, h91, h92, h110, h111, ptrI_0, (by omega), (by first | exact jmk | exact rgs_w jmk (by omega)), (by first | exact jrl | exact rgs_w jrl (by omega)), (by first | exact jrh | exact rgs_w jrh (by omega)), (by first | exact jns | exact rgs_w jns (by omega)), (by first | exact jnm | exact rgs_w jnm (by omega))⟩)
              · refine zz_iconst d_MO_readRepeat_142 ?_
                refine ab_goto (tgt := 147) d_MO_readRepeat_143 (by decide) ?_
                refine ab_callV (d' := d - 1) (as := [vz m_least0, vz m_most0, vz 1]) (st := []) (r := _) (z_MO_repeat (o := o) (m_thrown := m_thrown) (m_taped := m_taped) (m_length := m_length) (m_out := m_out) (m_wide := m_wide) (m_gathered := m_gathered) (m_sets := m_sets) (m_ranges := m_ranges) (m_nodes := m_nodes) (m_at := ((m_at + be) + 0)) (m_flags := m_flags) (m_fault := m_fault) (m_place := m_place) (m_numbered := m_numbered) (m_depth := m_depth) (m_value := m_value) (m_isNot := m_isNot) (m_least0 := m_least0) (m_most0 := m_most0) (m_slot := m_slot) (m_work := m_work) (m_got := m_got) (m_rowMany := m_rowMany) (m_charAt := m_charAt) (m_charWide := m_charWide) (m_trail := m_trail) (m_isMatch := m_isMatch) (m_matchGroups := m_matchGroups) (m_allFrom := m_allFrom) (m_allBefore := m_allBefore) (m_founds := m_founds) (m_pieces := m_pieces) (m_writtenMany := m_writtenMany) (m_templateWide := m_templateWide) (m_tooMuch := m_tooMuch) (le := m_least0) (mo := m_most0) (lz := 1) h80 ptrI_0 (by omega) (by omega) (by omega) (by omega) (by omega) (by omega)) (fun oc G2 h => by rcases h with ⟨h, _⟩ <;> exact ⟨_, h⟩) (by omega) m_MO_repeat ml_MO_409 im_MO_repeat se_MO_repeat c_MO h80.2.2 (Nat.le_of_ble_eq_true rfl) d_MO_readRepeat_147 rfl ?_
                intro v G29 hq
                rcases hq with ⟨hv, hfk, hlk, hsk, hN80, pNtrI_0⟩
                cases hv
                have h84 := hfk.get h84 (by decide)
                have h87 := hfk.get h87 (by decide)
                have h88 := hfk.get h88 (by decide)
                have h93 := hfk.get h93 (by decide)
                have h81 := hfk.get h81 (by decide)
                have h82 := hfk.get h82 (by decide)
                have h91 := hfk.get h91 (by decide)
                have h92 := hfk.get h92 (by decide)
                have h110 := hfk.get h110 (by decide)
                have h111 := hfk.get h111 (by decide)
                have ptrI_0 := pNtrI_0
                have hfr := hfr.tr hfk (by decide)
                have hlen := hlk.trans hlen
                have hsl := hsk.trans hsl
                have h80 := hN80
                change ab_W _ _ _ G29 150 [some (vR 80), some (vz be), some (vz m_at), some (vz 0)] [] _
                refine ab_vret rfl d_MO_readRepeat_150 ?_
                rw [hQ]; exact (Or.inl ⟨_, _, _, _, _, _, _, _, _, _, _, _, _, _, _, _, _, _, _, _, _, _, rfl, hfr, hlen, hsl, h80, h87, h88, h93, h91, h92, h110, h111, ptrI_0, (by omega), (by first | exact jmk | exact rgs_w jmk (by omega)), (by first | exact jrl | exact rgs_w jrl (by omega)), (by first | exact jrh | exact rgs_w jrh (by omega)), (by first | exact jns | exact rgs_w jns (by omega)), (by first | exact jnm | exact rgs_w jnm (by omega))⟩)
            · refine zz_iconst d_MO_readRepeat_99 ?_
              refine ab_goto (tgt := 104) d_MO_readRepeat_100 (by decide) ?_
              refine ab_istore_n d_MO_readRepeat_104 (Nat.le_of_ble_eq_true rfl) (Nat.le_of_ble_eq_true rfl) rfl ?_
              change ab_W _ _ _ G17 105 [some (vR 80), some (vz be), some (vz m_at), some (vz 1)] [] _
              refine ab_aload_n d_MO_readRepeat_105 rfl ?_
              refine ab_dup d_MO_readRepeat_106 rfl ?_
              refine ab_getf (fs := mof m_thrown m_taped m_length m_out m_wide m_gathered m_sets m_ranges m_nodes (m_at + be) m_flags m_fault m_place m_numbered m_depth m_value m_isNot m_least0 m_most0 m_slot m_work m_got m_rowMany m_charAt m_charWide m_trail m_isMatch m_matchGroups m_allFrom m_allBefore m_founds m_pieces m_writtenMany m_templateWide m_tooMuch) f_MO_279 d_MO_readRepeat_107 h80.2.2 rfl ?_
              refine ab_iload_n d_MO_readRepeat_110 rfl ?_
              refine zz_if_eq (tgt := 118) d_MO_readRepeat_111 (by decide) (by decide) (fun c30 => absurd c30 (by decide)) (fun c30 => ?_)
              refine zz_iconst d_MO_readRepeat_114 ?_
              refine ab_goto (tgt := 119) d_MO_readRepeat_115 (by decide) ?_
              refine zz_iadd d_MO_readRepeat_119 ?_
              refine ab_putf (fs := mof m_thrown m_taped m_length m_out m_wide m_gathered m_sets m_ranges m_nodes (m_at + be) m_flags m_fault m_place m_numbered m_depth m_value m_isNot m_least0 m_most0 m_slot m_work m_got m_rowMany m_charAt m_charWide m_trail m_isMatch m_matchGroups m_allFrom m_allBefore m_founds m_pieces m_writtenMany m_templateWide m_tooMuch) f_MO_279 (Or.inl rfl) d_MO_readRepeat_120 h80.2.2 (Nat.le_of_ble_eq_true rfl) (fun _ => ⟨rfl, rfl⟩) (h80.2.1 (by decide)) ?_
              obtain ⟨G31, eG31⟩ : ∃ z : ab_G, z = List.set G17 80 (ab_ob 12 (mof m_thrown m_taped m_length m_out m_wide m_gathered m_sets m_ranges m_nodes ((m_at + be) + 1) m_flags m_fault m_place m_numbered m_depth m_value m_isNot m_least0 m_most0 m_slot m_work m_got m_rowMany m_charAt m_charWide m_trail m_isMatch m_matchGroups m_allFrom m_allBefore m_founds m_pieces m_writtenMany m_templateWide m_tooMuch)) := ⟨_, rfl⟩
              have h84 := h84.keep h80 eG31 (by decide)
              have h87 := h87.keep h80 eG31 (by decide)
              have h88 := h88.keep h80 eG31 (by decide)
              have h93 := h93.keep h80 eG31 (by decide)
              have h81 := h81.keep h80 eG31 (by decide)
              have h82 := h82.keep h80 eG31 (by decide)
              have h91 := h91.keep h80 eG31 (by decide)
              have h92 := h92.keep h80 eG31 (by decide)
              have h110 := h110.keep h80 eG31 (by decide)
              have h111 := h111.keep h80 eG31 (by decide)
              have hst := (fx.rf (o := o) (S := [280]) (G := G17)).wr h80 eG31 (List.mem_singleton.mpr rfl)
              have ptrI_0 := trI.fr hst ptrI_0 (by decide) (by decide) (by decide) (by decide) (by decide) (by decide) (by decide) (by decide) (by decide) (by decide) (by decide) (by decide) (by decide) (by decide) (by decide) (by decide) (by decide) (by decide)
              have hlen := (z_len eG31).trans hlen
              have hsl := (z_sl h80 eG31 rfl).trans hsl
              have hfr := hfr.wr h80 eG31 (by decide)
              have h80 := h80.kept eG31
              change ab_W _ _ _ (List.set G17 80 (ab_ob 12 (mof m_thrown m_taped m_length m_out m_wide m_gathered m_sets m_ranges m_nodes ((m_at + be) + 1) m_flags m_fault m_place m_numbered m_depth m_value m_isNot m_least0 m_most0 m_slot m_work m_got m_rowMany m_charAt m_charWide m_trail m_isMatch m_matchGroups m_allFrom m_allBefore m_founds m_pieces m_writtenMany m_templateWide m_tooMuch))) 123 [some (vR 80), some (vz be), some (vz m_at), some (vz 1)] [] _
              rw [← eG31]
              refine ab_aload_n d_MO_readRepeat_123 rfl ?_
              refine ab_aload_n d_MO_readRepeat_124 rfl ?_
              refine ab_getf (fs := mof m_thrown m_taped m_length m_out m_wide m_gathered m_sets m_ranges m_nodes ((m_at + be) + 1) m_flags m_fault m_place m_numbered m_depth m_value m_isNot m_least0 m_most0 m_slot m_work m_got m_rowMany m_charAt m_charWide m_trail m_isMatch m_matchGroups m_allFrom m_allBefore m_founds m_pieces m_writtenMany m_templateWide m_tooMuch) f_MO_403 d_MO_readRepeat_125 h80.2.2 rfl ?_
              refine ab_aload_n d_MO_readRepeat_128 rfl ?_
              refine ab_getf (fs := mof m_thrown m_taped m_length m_out m_wide m_gathered m_sets m_ranges m_nodes ((m_at + be) + 1) m_flags m_fault m_place m_numbered m_depth m_value m_isNot m_least0 m_most0 m_slot m_work m_got m_rowMany m_charAt m_charWide m_trail m_isMatch m_matchGroups m_allFrom m_allBefore m_founds m_pieces m_writtenMany m_templateWide m_tooMuch) f_MO_406 d_MO_readRepeat_129 h80.2.2 rfl ?_
              refine ab_iload_n d_MO_readRepeat_132 rfl ?_
              refine ab_aload_n d_MO_readRepeat_133 rfl ?_
              refine zz_bipush d_MO_readRepeat_134 (by decide) ?_
              refine ab_callV (d' := d - 1) (as := [vz 8]) (st := [vz 1, vz m_most0, vz m_least0, vR 80]) (r := _) (z_MO_has (o := o) (m_thrown := m_thrown) (m_taped := m_taped) (m_length := m_length) (m_out := m_out) (m_wide := m_wide) (m_gathered := m_gathered) (m_sets := m_sets) (m_ranges := m_ranges) (m_nodes := m_nodes) (m_at := ((m_at + be) + 1)) (m_flags := m_flags) (m_fault := m_fault) (m_place := m_place) (m_numbered := m_numbered) (m_depth := m_depth) (m_value := m_value) (m_isNot := m_isNot) (m_least0 := m_least0) (m_most0 := m_most0) (m_slot := m_slot) (m_work := m_work) (m_got := m_got) (m_rowMany := m_rowMany) (m_charAt := m_charAt) (m_charWide := m_charWide) (m_trail := m_trail) (m_isMatch := m_isMatch) (m_matchGroups := m_matchGroups) (m_allFrom := m_allFrom) (m_allBefore := m_allBefore) (m_founds := m_founds) (m_pieces := m_pieces) (m_writtenMany := m_writtenMany) (m_templateWide := m_templateWide) (m_tooMuch := m_tooMuch) (x := 8) h80) (fun oc G2 h => by rcases h with ⟨_, h, _⟩ <;> exact ⟨_, h⟩) (by omega) m_MO_has ml_MO_355 im_MO_has se_MO_has c_MO h80.2.2 (Nat.le_of_ble_eq_true rfl) d_MO_readRepeat_136 rfl ?_
              intro v G32 hq
              rcases hq with ⟨v33, hv, hGe, hq34⟩
              cases hv
              rw [hGe]
              change ab_W _ _ _ G31 139 [some (vR 80), some (vz be), some (vz m_at), some (vz 1)] [vz v33, vz 1, vz m_most0, vz m_least0, vR 80] _
              refine zz_icmp_eq (tgt := 146) d_MO_readRepeat_139 (by decide) (by decide) (by omega) (fun c35 => ?_) (fun c35 => ?_)
              · refine zz_iconst d_MO_readRepeat_146 ?_
                refine ab_callV (d' := d - 1) (as := [vz m_least0, vz m_most0, vz 0]) (st := []) (r := _) (z_MO_repeat (o := o) (m_thrown := m_thrown) (m_taped := m_taped) (m_length := m_length) (m_out := m_out) (m_wide := m_wide) (m_gathered := m_gathered) (m_sets := m_sets) (m_ranges := m_ranges) (m_nodes := m_nodes) (m_at := ((m_at + be) + 1)) (m_flags := m_flags) (m_fault := m_fault) (m_place := m_place) (m_numbered := m_numbered) (m_depth := m_depth) (m_value := m_value) (m_isNot := m_isNot) (m_least0 := m_least0) (m_most0 := m_most0) (m_slot := m_slot) (m_work := m_work) (m_got := m_got) (m_rowMany := m_rowMany) (m_charAt := m_charAt) (m_charWide := m_charWide) (m_trail := m_trail) (m_isMatch := m_isMatch) (m_matchGroups := m_matchGroups) (m_allFrom := m_allFrom) (m_allBefore := m_allBefore) (m_founds := m_founds) (m_pieces := m_pieces) (m_writtenMany := m_writtenMany) (m_templateWide := m_templateWide) (m_tooMuch := m_tooMuch) (le := m_least0) (mo := m_most0) (lz := 0) h80 ptrI_0 (by omega) (by omega) (by omega) (by omega) (by omega) (by omega)) (fun oc G2 h => by rcases h with ⟨h, _⟩ <;> exact ⟨_, h⟩) (by omega) m_MO_repeat ml_MO_409 im_MO_repeat se_MO_repeat c_MO h80.2.2 (Nat.le_of_ble_eq_true rfl) d_MO_readRepeat_147 rfl ?_
                intro v G36 hq
                rcases hq with ⟨hv, hfk, hlk, hsk, hN80, pNtrI_0⟩
                cases hv
                have h84 := hfk.get h84 (by decide)
                have h87 := hfk.get h87 (by decide)
                have h88 := hfk.get h88 (by decide)
                have h93 := hfk.get h93 (by decide)
                have h81 := hfk.get h81 (by decide)
                have h82 := hfk.get h82 (by decide)
                have h91 := hfk.get h91 (by decide)
                have h92 := hfk.get h92 (by decide)
                have h110 := hfk.get h110 (by decide)
                have h111 := hfk.get h111 (by decide)
                have ptrI_0 := pNtrI_0
                have hfr := hfr.tr hfk (by decide)
                have hlen := hlk.trans hlen
                have hsl := hsk.trans hsl
                have h80 := hN80
                change ab_W _ _ _ G36 150 [some (vR 80), some (vz be), some (vz m_at), some (vz 1)] [] _
                refine ab_vret rfl d_MO_readRepeat_150 ?_
                rw [hQ]; exact (Or.inl ⟨_, _, _, _, _, _, _, _, _, _, _, _, _, _, _, _, _, _, _, _, _, _, rfl, hfr, hlen, hsl, h80, h87, h88, h93, h91, h92, h110, h111, ptrI_0, (by omega), (by first | exact jmk | exact rgs_w jmk (by omega)), (by first | exact jrl | exact rgs_w jrl (by omega)), (by first | exact jrh | exact rgs_w jrh (by omega)), (by first | exact jns | exact rgs_w jns (by omega)), (by first | exact jnm | exact rgs_w jnm (by omega))⟩)
              · refine zz_iconst d_MO_readRepeat_142 ?_
                refine ab_goto (tgt := 147) d_MO_readRepeat_143 (by decide) ?_
                refine ab_callV (d' := d - 1) (as := [vz m_least0, vz m_most0, vz 1]) (st := []) (r := _) (z_MO_repeat (o := o) (m_thrown := m_thrown) (m_taped := m_taped) (m_length := m_length) (m_out := m_out) (m_wide := m_wide) (m_gathered := m_gathered) (m_sets := m_sets) (m_ranges := m_ranges) (m_nodes := m_nodes) (m_at := ((m_at + be) + 1)) (m_flags := m_flags) (m_fault := m_fault) (m_place := m_place) (m_numbered := m_numbered) (m_depth := m_depth) (m_value := m_value) (m_isNot := m_isNot) (m_least0 := m_least0) (m_most0 := m_most0) (m_slot := m_slot) (m_work := m_work) (m_got := m_got) (m_rowMany := m_rowMany) (m_charAt := m_charAt) (m_charWide := m_charWide) (m_trail := m_trail) (m_isMatch := m_isMatch) (m_matchGroups := m_matchGroups) (m_allFrom := m_allFrom) (m_allBefore := m_allBefore) (m_founds := m_founds) (m_pieces := m_pieces) (m_writtenMany := m_writtenMany) (m_templateWide := m_templateWide) (m_tooMuch := m_tooMuch) (le := m_least0) (mo := m_most0) (lz := 1) h80 ptrI_0 (by omega) (by omega) (by omega) (by omega) (by omega) (by omega)) (fun oc G2 h => by rcases h with ⟨h, _⟩ <;> exact ⟨_, h⟩) (by omega) m_MO_repeat ml_MO_409 im_MO_repeat se_MO_repeat c_MO h80.2.2 (Nat.le_of_ble_eq_true rfl) d_MO_readRepeat_147 rfl ?_
                intro v G37 hq
                rcases hq with ⟨hv, hfk, hlk, hsk, hN80, pNtrI_0⟩
                cases hv
                have h84 := hfk.get h84 (by decide)
                have h87 := hfk.get h87 (by decide)
                have h88 := hfk.get h88 (by decide)
                have h93 := hfk.get h93 (by decide)
                have h81 := hfk.get h81 (by decide)
                have h82 := hfk.get h82 (by decide)
                have h91 := hfk.get h91 (by decide)
                have h92 := hfk.get h92 (by decide)
                have h110 := hfk.get h110 (by decide)
                have h111 := hfk.get h111 (by decide)
                have ptrI_0 := pNtrI_0
                have hfr := hfr.tr hfk (by decide)
                have hlen := hlk.trans hlen
                have hsl := hsk.trans hsl
                have h80 := hN80
                change ab_W _ _ _ G37 150 [some (vR 80), some (vz be), some (vz m_at), some (vz 1)] [] _
                refine ab_vret rfl d_MO_readRepeat_150 ?_
                rw [hQ]; exact (Or.inl ⟨_, _, _, _, _, _, _, _, _, _, _, _, _, _, _, _, _, _, _, _, _, _, rfl, hfr, hlen, hsl, h80, h87, h88, h93, h91, h92, h110, h111, ptrI_0, (by omega), (by first | exact jmk | exact rgs_w jmk (by omega)), (by first | exact jrl | exact rgs_w jrl (by omega)), (by first | exact jrh | exact rgs_w jrh (by omega)), (by first | exact jns | exact rgs_w jns (by omega)), (by first | exact jnm | exact rgs_w jnm (by omega))⟩)
          · cases hv
            rw [hGe]
            change ab_W _ _ _ G17 94 [some (vR 80), some (vz be), some (vz m_at), none] [vz (-1)] _
            refine zz_bipush d_MO_readRepeat_94 (by decide) ?_
            refine zz_icmp_ne (tgt := 103) d_MO_readRepeat_96 (by decide) (by decide) (by decide) (fun c38 => ?_) (fun c38 => absurd c38 (by decide))
            refine zz_iconst d_MO_readRepeat_103 ?_
            refine ab_istore_n d_MO_readRepeat_104 (Nat.le_of_ble_eq_true rfl) (Nat.le_of_ble_eq_true rfl) rfl ?_
            change ab_W _ _ _ G17 105 [some (vR 80), some (vz be), some (vz m_at), some (vz 0)] [] _
            refine ab_aload_n d_MO_readRepeat_105 rfl ?_
            refine ab_dup d_MO_readRepeat_106 rfl ?_
            refine ab_getf (fs := mof m_thrown m_taped m_length m_out m_wide m_gathered m_sets m_ranges m_nodes (m_at + be) m_flags m_fault m_place m_numbered m_depth m_value m_isNot m_least0 m_most0 m_slot m_work m_got m_rowMany m_charAt m_charWide m_trail m_isMatch m_matchGroups m_allFrom m_allBefore m_founds m_pieces m_writtenMany m_templateWide m_tooMuch) f_MO_279 d_MO_readRepeat_107 h80.2.2 rfl ?_
            refine ab_iload_n d_MO_readRepeat_110 rfl ?_
            refine zz_if_eq (tgt := 118) d_MO_readRepeat_111 (by decide) (by decide) (fun c39 => ?_) (fun c39 => absurd c39 (by decide))
            refine zz_iconst d_MO_readRepeat_118 ?_
            refine zz_iadd d_MO_readRepeat_119 ?_
            refine ab_putf (fs := mof m_thrown m_taped m_length m_out m_wide m_gathered m_sets m_ranges m_nodes (m_at + be) m_flags m_fault m_place m_numbered m_depth m_value m_isNot m_least0 m_most0 m_slot m_work m_got m_rowMany m_charAt m_charWide m_trail m_isMatch m_matchGroups m_allFrom m_allBefore m_founds m_pieces m_writtenMany m_templateWide m_tooMuch) f_MO_279 (Or.inl rfl) d_MO_readRepeat_120 h80.2.2 (Nat.le_of_ble_eq_true rfl) (fun _ => ⟨rfl, rfl⟩) (h80.2.1 (by decide)) ?_
            obtain ⟨G40, eG40⟩ : ∃ z : ab_G, z = List.set G17 80 (ab_ob 12 (mof m_thrown m_taped m_length m_out m_wide m_gathered m_sets m_ranges m_nodes ((m_at + be) + 0) m_flags m_fault m_place m_numbered m_depth m_value m_isNot m_least0 m_most0 m_slot m_work m_got m_rowMany m_charAt m_charWide m_trail m_isMatch m_matchGroups m_allFrom m_allBefore m_founds m_pieces m_writtenMany m_templateWide m_tooMuch)) := ⟨_, rfl⟩
            have h84 := h84.keep h80 eG40 (by decide)
            have h87 := h87.keep h80 eG40 (by decide)
            have h88 := h88.keep h80 eG40 (by decide)
            have h93 := h93.keep h80 eG40 (by decide)
            have h81 := h81.keep h80 eG40 (by decide)
            have h82 := h82.keep h80 eG40 (by decide)
            have h91 := h91.keep h80 eG40 (by decide)
            have h92 := h92.keep h80 eG40 (by decide)
            have h110 := h110.keep h80 eG40 (by decide)
            have h111 := h111.keep h80 eG40 (by decide)
            have hst := (fx.rf (o := o) (S := [280]) (G := G17)).wr h80 eG40 (List.mem_singleton.mpr rfl)
            have ptrI_0 := trI.fr hst ptrI_0 (by decide) (by decide) (by decide) (by decide) (by decide) (by decide) (by decide) (by decide) (by decide) (by decide) (by decide) (by decide) (by decide) (by decide) (by decide) (by decide) (by decide) (by decide)
            have hlen := (z_len eG40).trans hlen
            have hsl := (z_sl h80 eG40 rfl).trans hsl
            have hfr := hfr.wr h80 eG40 (by decide)
            have h80 := h80.kept eG40
            change ab_W _ _ _ (List.set G17 80 (ab_ob 12 (mof m_thrown m_taped m_length m_out m_wide m_gathered m_sets m_ranges m_nodes ((m_at + be) + 0) m_flags m_fault m_place m_numbered m_depth m_value m_isNot m_least0 m_most0 m_slot m_work m_got m_rowMany m_charAt m_charWide m_trail m_isMatch m_matchGroups m_allFrom m_allBefore m_founds m_pieces m_writtenMany m_templateWide m_tooMuch))) 123 [some (vR 80), some (vz be), some (vz m_at), some (vz 0)] [] _
            rw [← eG40]
            refine ab_aload_n d_MO_readRepeat_123 rfl ?_
            refine ab_aload_n d_MO_readRepeat_124 rfl ?_
            refine ab_getf (fs := mof m_thrown m_taped m_length m_out m_wide m_gathered m_sets m_ranges m_nodes ((m_at + be) + 0) m_flags m_fault m_place m_numbered m_depth m_value m_isNot m_least0 m_most0 m_slot m_work m_got m_rowMany m_charAt m_charWide m_trail m_isMatch m_matchGroups m_allFrom m_allBefore m_founds m_pieces m_writtenMany m_templateWide m_tooMuch) f_MO_403 d_MO_readRepeat_125 h80.2.2 rfl ?_
            refine ab_aload_n d_MO_readRepeat_128 rfl ?_
            refine ab_getf (fs := mof m_thrown m_taped m_length m_out m_wide m_gathered m_sets m_ranges m_nodes ((m_at + be) + 0) m_flags m_fault m_place m_numbered m_depth m_value m_isNot m_least0 m_most0 m_slot m_work m_got m_rowMany m_charAt m_charWide m_trail m_isMatch m_matchGroups m_allFrom m_allBefore m_founds m_pieces m_writtenMany m_templateWide m_tooMuch) f_MO_406 d_MO_readRepeat_129 h80.2.2 rfl ?_
            refine ab_iload_n d_MO_readRepeat_132 rfl ?_
            refine ab_aload_n d_MO_readRepeat_133 rfl ?_
            refine zz_bipush d_MO_readRepeat_134 (by decide) ?_
            refine ab_callV (d' := d - 1) (as := [vz 8]) (st := [vz 0, vz m_most0, vz m_least0, vR 80]) (r := _) (z_MO_has (o := o) (m_thrown := m_thrown) (m_taped := m_taped) (m_length := m_length) (m_out := m_out) (m_wide := m_wide) (m_gathered := m_gathered) (m_sets := m_sets) (m_ranges := m_ranges) (m_nodes := m_nodes) (m_at := ((m_at + be) + 0)) (m_flags := m_flags) (m_fault := m_fault) (m_place := m_place) (m_numbered := m_numbered) (m_depth := m_depth) (m_value := m_value) (m_isNot := m_isNot) (m_least0 := m_least0) (m_most0 := m_most0) (m_slot := m_slot) (m_work := m_work) (m_got := m_got) (m_rowMany := m_rowMany) (m_charAt := m_charAt) (m_charWide := m_charWide) (m_trail := m_trail) (m_isMatch := m_isMatch) (m_matchGroups := m_matchGroups) (m_allFrom := m_allFrom) (m_allBefore := m_allBefore) (m_founds := m_founds) (m_pieces := m_pieces) (m_writtenMany := m_writtenMany) (m_templateWide := m_templateWide) (m_tooMuch := m_tooMuch) (x := 8) h80) (fun oc G2 h => by rcases h with ⟨_, h, _⟩ <;> exact ⟨_, h⟩) (by omega) m_MO_has ml_MO_355 im_MO_has se_MO_has c_MO h80.2.2 (Nat.le_of_ble_eq_true rfl) d_MO_readRepeat_136 rfl ?_
            intro v G41 hq
            rcases hq with ⟨v42, hv, hGe, hq43⟩
            cases hv
            rw [hGe]
            change ab_W _ _ _ G40 139 [some (vR 80), some (vz be), some (vz m_at), some (vz 0)] [vz v42, vz 0, vz m_most0, vz m_least0, vR 80] _
            refine zz_icmp_eq (tgt := 146) d_MO_readRepeat_139 (by decide) (by decide) (by omega) (fun c44 => ?_) (fun c44 => ?_)
            · refine zz_iconst d_MO_readRepeat_146 ?_
              refine ab_callV (d' := d - 1) (as := [vz m_least0, vz m_most0, vz 0]) (st := []) (r := _) (z_MO_repeat (o := o) (m_thrown := m_thrown) (m_taped := m_taped) (m_length := m_length) (m_out := m_out) (m_wide := m_wide) (m_gathered := m_gathered) (m_sets := m_sets) (m_ranges := m_ranges) (m_nodes := m_nodes) (m_at := ((m_at + be) + 0)) (m_flags := m_flags) (m_fault := m_fault) (m_place := m_place) (m_numbered := m_numbered) (m_depth := m_depth) (m_value := m_value) (m_isNot := m_isNot) (m_least0 := m_least0) (m_most0 := m_most0) (m_slot := m_slot) (m_work := m_work) (m_got := m_got) (m_rowMany := m_rowMany) (m_charAt := m_charAt) (m_charWide := m_charWide) (m_trail := m_trail) (m_isMatch := m_isMatch) (m_matchGroups := m_matchGroups) (m_allFrom := m_allFrom) (m_allBefore := m_allBefore) (m_founds := m_founds) (m_pieces := m_pieces) (m_writtenMany := m_writtenMany) (m_templateWide := m_templateWide) (m_tooMuch := m_tooMuch) (le := m_least0) (mo := m_most0) (lz := 0) h80 ptrI_0 (by omega) (by omega) (by omega) (by omega) (by omega) (by omega)) (fun oc G2 h => by rcases h with ⟨h, _⟩ <;> exact ⟨_, h⟩) (by omega) m_MO_repeat ml_MO_409 im_MO_repeat se_MO_repeat c_MO h80.2.2 (Nat.le_of_ble_eq_true rfl) d_MO_readRepeat_147 rfl ?_
              intro v G45 hq
              rcases hq with ⟨hv, hfk, hlk, hsk, hN80, pNtrI_0⟩
              cases hv
              have h84 := hfk.get h84 (by decide)
              have h87 := hfk.get h87 (by decide)
              have h88 := hfk.get h88 (by decide)
              have h93 := hfk.get h93 (by decide)
              have h81 := hfk.get h81 (by decide)
              have h82 := hfk.get h82 (by decide)
              have h91 := hfk.get h91 (by decide)
              have h92 := hfk.get h92 (by decide)
              have h110 := hfk.get h110 (by decide)
              have h111 := hfk.get h111 (by decide)
              have ptrI_0 := pNtrI_0
              have hfr := hfr.tr hfk (by decide)
              have hlen := hlk.trans hlen
              have hsl := hsk.trans hsl
              have h80 := hN80
              change ab_W _ _ _ G45 150 [some (vR 80), some (vz be), some (vz m_at), some (vz 0)] [] _
              refine ab_vret rfl d_MO_readRepeat_150 ?_
              rw [hQ]; exact (Or.inl ⟨_, _, _, _, _, _, _, _, _, _, _, _, _, _, _, _, _, _, _, _, _, _, rfl, hfr, hlen, hsl, h80, h87, h88, h93, h91, h92, h110, h111, ptrI_0, (by omega), (by first | exact jmk | exact rgs_w jmk (by omega)), (by first | exact jrl | exact rgs_w jrl (by omega)), (by first | exact jrh | exact rgs_w jrh (by omega)), (by first | exact jns | exact rgs_w jns (by omega)), (by first | exact jnm | exact rgs_w jnm (by omega))⟩)
            · refine zz_iconst d_MO_readRepeat_142 ?_
              refine ab_goto (tgt := 147) d_MO_readRepeat_143 (by decide) ?_
              refine ab_callV (d' := d - 1) (as := [vz m_least0, vz m_most0, vz 1]) (st := []) (r := _) (z_MO_repeat (o := o) (m_thrown := m_thrown) (m_taped := m_taped) (m_length := m_length) (m_out := m_out) (m_wide := m_wide) (m_gathered := m_gathered) (m_sets := m_sets) (m_ranges := m_ranges) (m_nodes := m_nodes) (m_at := ((m_at + be) + 0)) (m_flags := m_flags) (m_fault := m_fault) (m_place := m_place) (m_numbered := m_numbered) (m_depth := m_depth) (m_value := m_value) (m_isNot := m_isNot) (m_least0 := m_least0) (m_most0 := m_most0) (m_slot := m_slot) (m_work := m_work) (m_got := m_got) (m_rowMany := m_rowMany) (m_charAt := m_charAt) (m_charWide := m_charWide) (m_trail := m_trail) (m_isMatch := m_isMatch) (m_matchGroups := m_matchGroups) (m_allFrom := m_allFrom) (m_allBefore := m_allBefore) (m_founds := m_founds) (m_pieces := m_pieces) (m_writtenMany := m_writtenMany) (m_templateWide := m_templateWide) (m_tooMuch := m_tooMuch) (le := m_least0) (mo := m_most0) (lz := 1) h80 ptrI_0 (by omega) (by omega) (by omega) (by omega) (by omega) (by omega)) (fun oc G2 h => by rcases h with ⟨h, _⟩ <;> exact ⟨_, h⟩) (by omega) m_MO_repeat ml_MO_409 im_MO_repeat se_MO_repeat c_MO h80.2.2 (Nat.le_of_ble_eq_true rfl) d_MO_readRepeat_147 rfl ?_
              intro v G46 hq
              rcases hq with ⟨hv, hfk, hlk, hsk, hN80, pNtrI_0⟩
              cases hv
              have h84 := hfk.get h84 (by decide)
              have h87 := hfk.get h87 (by decide)
              have h88 := hfk.get h88 (by decide)
              have h93 := hfk.get h93 (by decide)
              have h81 := hfk.get h81 (by decide)
              have h82 := hfk.get h82 (by decide)
              have h91 := hfk.get h91 (by decide)
              have h92 := hfk.get h92 (by decide)
              have h110 := hfk.get h110 (by decide)
              have h111 := hfk.get h111 (by decide)
              have ptrI_0 := pNtrI_0
              have hfr := hfr.tr hfk (by decide)
              have hlen := hlk.trans hlen
              have hsl := hsk.trans hsl
              have h80 := hN80
              change ab_W _ _ _ G46 150 [some (vR 80), some (vz be), some (vz m_at), some (vz 0)] [] _
              refine ab_vret rfl d_MO_readRepeat_150 ?_
              rw [hQ]; exact (Or.inl ⟨_, _, _, _, _, _, _, _, _, _, _, _, _, _, _, _, _, _, _, _, _, _, rfl, hfr, hlen, hsl, h80, h87, h88, h93, h91, h92, h110, h111, ptrI_0, (by omega), (by first | exact jmk | exact rgs_w jmk (by omega)), (by first | exact jrl | exact rgs_w jrl (by omega)), (by first | exact jrh | exact rgs_w jrh (by omega)), (by first | exact jns | exact rgs_w jns (by omega)), (by first | exact jnm | exact rgs_w jnm (by omega))⟩)
        · refine ab_aload_n d_MO_readRepeat_53 rfl ?_
          refine ab_getf (fs := mof m_thrown m_taped m_length m_out m_wide m_gathered m_sets m_ranges m_nodes m_at m_flags m_fault m_place m_numbered m_depth m_value m_isNot m_least0 m_most0 m_slot m_work m_got m_rowMany m_charAt m_charWide m_trail m_isMatch m_matchGroups m_allFrom m_allBefore m_founds m_pieces m_writtenMany m_templateWide m_tooMuch) f_MO_403 d_MO_readRepeat_54 h80.2.2 rfl ?_
          refine ab_aload_n d_MO_readRepeat_57 rfl ?_
          refine ab_getf (fs := mof m_thrown m_taped m_length m_out m_wide m_gathered m_sets m_ranges m_nodes m_at m_flags m_fault m_place m_numbered m_depth m_value m_isNot m_least0 m_most0 m_slot m_work m_got m_rowMany m_charAt m_charWide m_trail m_isMatch m_matchGroups m_allFrom m_allBefore m_founds m_pieces m_writtenMany m_templateWide m_tooMuch) f_MO_406 d_MO_readRepeat_58 h80.2.2 rfl ?_
          refine zz_icmp_le (tgt := 71) d_MO_readRepeat_61 (by decide) (by omega) (by omega) (fun c47 => ?_) (fun c47 => ?_)
          · refine ab_aload_n d_MO_readRepeat_71 rfl ?_
            refine ab_getf (fs := mof m_thrown m_taped m_length m_out m_wide m_gathered m_sets m_ranges m_nodes m_at m_flags m_fault m_place m_numbered m_depth m_value m_isNot m_least0 m_most0 m_slot m_work m_got m_rowMany m_charAt m_charWide m_trail m_isMatch m_matchGroups m_allFrom m_allBefore m_founds m_pieces m_writtenMany m_templateWide m_tooMuch) f_MO_273 d_MO_readRepeat_72 h80.2.2 rfl ?_
            refine zz_if_le (tgt := 79) d_MO_readRepeat_75 (by decide) (by omega) (fun c48 => ?_) (fun c48 => absurd c48 (by omega))
            have ptrI_0 : trI o G 0 m_nodes m_sets (m_depth + 1) (-1) 0 2 := ⟨K, O, Fi, Be, Le, Mo, Z, LZ, SM, SA, QF, QL, AF, AL, SD, OA, OF, ON, h94, h95, h96, h97, h98, h99, h100, h101, h90, h89, h105, h106, h107, h108, h109, h102, h103, h104, jk, jo, jfi, jbe, jle, jmo, jz, jlz, jsm, jsa, jqf, jql, jaf, jal, jsd, joa, jof, jon, jt, (by omega), (fun h => absurd h (by decide)), (fun _ => by rw [show m_depth + 1 - 1 = m_depth by omega]; omega), (fun h => absurd h (by decide)), (fun h => absurd h (by decide)), (fun h => absurd h (by decide)), jss⟩
            refine ab_aload_n d_MO_readRepeat_79 rfl ?_
            refine ab_dup d_MO_readRepeat_80 rfl ?_
            refine ab_getf (fs := mof m_thrown m_taped m_length m_out m_wide m_gathered m_sets m_ranges m_nodes m_at m_flags m_fault m_place m_numbered m_depth m_value m_isNot m_least0 m_most0 m_slot m_work m_got m_rowMany m_charAt m_charWide m_trail m_isMatch m_matchGroups m_allFrom m_allBefore m_founds m_pieces m_writtenMany m_templateWide m_tooMuch) f_MO_279 d_MO_readRepeat_81 h80.2.2 rfl ?_
            refine ab_iload_n d_MO_readRepeat_84 rfl ?_
            refine zz_iadd d_MO_readRepeat_85 ?_
            refine ab_putf (fs := mof m_thrown m_taped m_length m_out m_wide m_gathered m_sets m_ranges m_nodes m_at m_flags m_fault m_place m_numbered m_depth m_value m_isNot m_least0 m_most0 m_slot m_work m_got m_rowMany m_charAt m_charWide m_trail m_isMatch m_matchGroups m_allFrom m_allBefore m_founds m_pieces m_writtenMany m_templateWide m_tooMuch) f_MO_279 (Or.inl rfl) d_MO_readRepeat_86 h80.2.2 (Nat.le_of_ble_eq_true rfl) (fun _ => ⟨rfl, rfl⟩) (h80.2.1 (by decide)) ?_
            obtain ⟨G49, eG49⟩ : ∃ z : ab_G, z = List.set G 80 (ab_ob 12 (mof m_thrown m_taped m_length m_out m_wide m_gathered m_sets m_ranges m_nodes (m_at + be) m_flags m_fault m_place m_numbered m_depth m_value m_isNot m_least0 m_most0 m_slot m_work m_got m_rowMany m_charAt m_charWide m_trail m_isMatch m_matchGroups m_allFrom m_allBefore m_founds m_pieces m_writtenMany m_templateWide m_tooMuch)) := ⟨_, rfl⟩
            have h84 := h84.keep h80 eG49 (by decide)
            have h87 := h87.keep h80 eG49 (by decide)
            have h88 := h88.keep h80 eG49 (by decide)
            have h93 := h93.keep h80 eG49 (by decide)
            have h81 := h81.keep h80 eG49 (by decide)
            have h82 := h82.keep h80 eG49 (by decide)
            have h91 := h91.keep h80 eG49 (by decide)
            have h92 := h92.keep h80 eG49 (by decide)
            have h110 := h110.keep h80 eG49 (by decide)
            have h111 := h111.keep h80 eG49 (by decide)
            have hst := (fx.rf (o := o) (S := [280]) (G := G)).wr h80 eG49 (List.mem_singleton.mpr rfl)
            have ptrI_0 := trI.fr hst ptrI_0 (by decide) (by decide) (by decide) (by decide) (by decide) (by decide) (by decide) (by decide) (by decide) (by decide) (by decide) (by decide) (by decide) (by decide) (by decide) (by decide) (by decide) (by decide)
            have hlen := (z_len eG49).trans hlen
            have hsl := (z_sl h80 eG49 rfl).trans hsl
            have hfr := hfr.wr h80 eG49 (by decide)
            have h80 := h80.kept eG49
            change ab_W _ _ _ (List.set G 80 (ab_ob 12 (mof m_thrown m_taped m_length m_out m_wide m_gathered m_sets m_ranges m_nodes (m_at + be) m_flags m_fault m_place m_numbered m_depth m_value m_isNot m_least0 m_most0 m_slot m_work m_got m_rowMany m_charAt m_charWide m_trail m_isMatch m_matchGroups m_allFrom m_allBefore m_founds m_pieces m_writtenMany m_templateWide m_tooMuch))) 89 [some (vR 80), some (vz be), some (vz m_at), none] [] _
            rw [← eG49]
            refine ab_aload_n d_MO_readRepeat_89 rfl ?_
            refine zz_iconst d_MO_readRepeat_90 ?_
            refine ab_callV (d' := d - 1) (as := [vz 0]) (st := []) (r := _) (z_MO_here (o := o) (m_thrown := m_thrown) (m_taped := m_taped) (m_length := m_length) (m_out := m_out) (m_wide := m_wide) (m_gathered := m_gathered) (m_sets := m_sets) (m_ranges := m_ranges) (m_nodes := m_nodes) (m_at := (m_at + be)) (m_flags := m_flags) (m_fault := m_fault) (m_place := m_place) (m_numbered := m_numbered) (m_depth := m_depth) (m_value := m_value) (m_isNot := m_isNot) (m_least0 := m_least0) (m_most0 := m_most0) (m_slot := m_slot) (m_work := m_work) (m_got := m_got) (m_rowMany := m_rowMany) (m_charAt := m_charAt) (m_charWide := m_charWide) (m_trail := m_trail) (m_isMatch := m_isMatch) (m_matchGroups := m_matchGroups) (m_allFrom := m_allFrom) (m_allBefore := m_allBefore) (m_founds := m_founds) (m_pieces := m_pieces) (m_writtenMany := m_writtenMany) (m_templateWide := m_templateWide) (m_tooMuch := m_tooMuch) (A_tape := A_tape) (k := 0) h80 h84 (by omega) (by omega) jtp (by omega)) (fun oc G2 h => by rcases h with ⟨h, _⟩ | ⟨h, _⟩ <;> exact ⟨_, h⟩) (by omega) m_MO_here ml_MO_297 im_MO_here se_MO_here c_MO h80.2.2 (Nat.le_of_ble_eq_true rfl) d_MO_readRepeat_91 rfl ?_
            intro v G50 hq
            rcases hq with ⟨hv, hGe, hq51⟩ | ⟨hv, hGe, hq52⟩
            · cases hv
              rw [hGe]
              change ab_W _ _ _ G49 94 [some (vR 80), some (vz be), some (vz m_at), none] [vz (A_tape ((m_at + be) + 0))] _
              refine zz_bipush d_MO_readRepeat_94 (by decide) ?_
              refine zz_icmp_ne (tgt := 103) d_MO_readRepeat_96 (by decide) (by omega) (by decide) (fun c53 => ?_) (fun c53 => ?_)
              · refine zz_iconst d_MO_readRepeat_103 ?_
                refine ab_istore_n d_MO_readRepeat_104 (Nat.le_of_ble_eq_true rfl) (Nat.le_of_ble_eq_true rfl) rfl ?_
                change ab_W _ _ _ G49 105 [some (vR 80), some (vz be), some (vz m_at), some (vz 0)] [] _
                refine ab_aload_n d_MO_readRepeat_105 rfl ?_
                refine ab_dup d_MO_readRepeat_106 rfl ?_
                refine ab_getf (fs := mof m_thrown m_taped m_length m_out m_wide m_gathered m_sets m_ranges m_nodes (m_at + be) m_flags m_fault m_place m_numbered m_depth m_value m_isNot m_least0 m_most0 m_slot m_work m_got m_rowMany m_charAt m_charWide m_trail m_isMatch m_matchGroups m_allFrom m_allBefore m_founds m_pieces m_writtenMany m_templateWide m_tooMuch) f_MO_279 d_MO_readRepeat_107 h80.2.2 rfl ?_
                refine ab_iload_n d_MO_readRepeat_110 rfl ?_
                refine zz_if_eq (tgt := 118) d_MO_readRepeat_111 (by decide) (by decide) (fun c54 => ?_) (fun c54 => absurd c54 (by decide))
                refine zz_iconst d_MO_readRepeat_118 ?_
                refine zz_iadd d_MO_readRepeat_119 ?_
                refine ab_putf (fs := mof m_thrown m_taped m_length m_out m_wide m_gathered m_sets m_ranges m_nodes (m_at + be) m_flags m_fault m_place m_numbered m_depth m_value m_isNot m_least0 m_most0 m_slot m_work m_got m_rowMany m_charAt m_charWide m_trail m_isMatch m_matchGroups m_allFrom m_allBefore m_founds m_pieces m_writtenMany m_templateWide m_tooMuch) f_MO_279 (Or.inl rfl) d_MO_readRepeat_120 h80.2.2 (Nat.le_of_ble_eq_true rfl) (fun _ => ⟨rfl, rfl⟩) (h80.2.1 (by decide)) ?_
                obtain ⟨G55, eG55⟩ : ∃ z : ab_G, z = List.set G49 80 (ab_ob 12 (mof m_thrown m_taped m_length m_out m_wide m_gathered m_sets m_ranges m_nodes ((m_at + be) + 0) m_flags m_fault m_place m_numbered m_depth m_value m_isNot m_least0 m_most0 m_slot m_work m_got m_rowMany m_charAt m_charWide m_trail m_isMatch m_matchGroups m_allFrom m_allBefore m_founds m_pieces m_writtenMany m_templateWide m_tooMuch)) := ⟨_, rfl⟩
                have h84 := h84.keep h80 eG55 (by decide)
                have h87 := h87.keep h80 eG55 (by decide)
                have h88 := h88.keep h80 eG55 (by decide)
                have h93 := h93.keep h80 eG55 (by decide)
                have h81 := h81.keep h80 eG55 (by decide)
                have h82 := h82.keep h80 eG55 (by decide)
                have h91 := h91.keep h80 eG55 (by decide)
                have h92 := h92.keep h80 eG55 (by decide)
                have h110 := h110.keep h80 eG55 (by decide)
                have h111 := h111.keep h80 eG55 (by decide)
                have hst := (fx.rf (o := o) (S := [280]) (G := G49)).wr h80 eG55 (List.mem_singleton.mpr rfl)
                have ptrI_0 := trI.fr hst ptrI_0 (by decide) (by decide) (by decide) (by decide) (by decide) (by decide) (by decide) (by decide) (by decide) (by decide) (by decide) (by decide) (by decide) (by decide) (by decide) (by decide) (by decide) (by decide)
                have hlen := (z_len eG55).trans hlen
                have hsl := (z_sl h80 eG55 rfl).trans hsl
                have hfr := hfr.wr h80 eG55 (by decide)
                have h80 := h80.kept eG55
                change ab_W _ _ _ (List.set G49 80 (ab_ob 12 (mof m_thrown m_taped m_length m_out m_wide m_gathered m_sets m_ranges m_nodes ((m_at + be) + 0) m_flags m_fault m_place m_numbered m_depth m_value m_isNot m_least0 m_most0 m_slot m_work m_got m_rowMany m_charAt m_charWide m_trail m_isMatch m_matchGroups m_allFrom m_allBefore m_founds m_pieces m_writtenMany m_templateWide m_tooMuch))) 123 [some (vR 80), some (vz be), some (vz m_at), some (vz 0)] [] _
                rw [← eG55]
                refine ab_aload_n d_MO_readRepeat_123 rfl ?_
                refine ab_aload_n d_MO_readRepeat_124 rfl ?_
                refine ab_getf (fs := mof m_thrown m_taped m_length m_out m_wide m_gathered m_sets m_ranges m_nodes ((m_at + be) + 0) m_flags m_fault m_place m_numbered m_depth m_value m_isNot m_least0 m_most0 m_slot m_work m_got m_rowMany m_charAt m_charWide m_trail m_isMatch m_matchGroups m_allFrom m_allBefore m_founds m_pieces m_writtenMany m_templateWide m_tooMuch) f_MO_403 d_MO_readRepeat_125 h80.2.2 rfl ?_
                refine ab_aload_n d_MO_readRepeat_128 rfl ?_
                refine ab_getf (fs := mof m_thrown m_taped m_length m_out m_wide m_gathered m_sets m_ranges m_nodes ((m_at + be) + 0) m_flags m_fault m_place m_numbered m_depth m_value m_isNot m_least0 m_most0 m_slot m_work m_got m_rowMany m_charAt m_charWide m_trail m_isMatch m_matchGroups m_allFrom m_allBefore m_founds m_pieces m_writtenMany m_templateWide m_tooMuch) f_MO_406 d_MO_readRepeat_129 h80.2.2 rfl ?_
                refine ab_iload_n d_MO_readRepeat_132 rfl ?_
                refine ab_aload_n d_MO_readRepeat_133 rfl ?_
                refine zz_bipush d_MO_readRepeat_134 (by decide) ?_
                refine ab_callV (d' := d - 1) (as := [vz 8]) (st := [vz 0, vz m_most0, vz m_least0, vR 80]) (r := _) (z_MO_has (o := o) (m_thrown := m_thrown) (m_taped := m_taped) (m_length := m_length) (m_out := m_out) (m_wide := m_wide) (m_gathered := m_gathered) (m_sets := m_sets) (m_ranges := m_ranges) (m_nodes := m_nodes) (m_at := ((m_at + be) + 0)) (m_flags := m_flags) (m_fault := m_fault) (m_place := m_place) (m_numbered := m_numbered) (m_depth := m_depth) (m_value := m_value) (m_isNot := m_isNot) (m_least0 := m_least0) (m_most0 := m_most0) (m_slot := m_slot) (m_work := m_work) (m_got := m_got) (m_rowMany := m_rowMany) (m_charAt := m_charAt) (m_charWide := m_charWide) (m_trail := m_trail) (m_isMatch := m_isMatch) (m_matchGroups := m_matchGroups) (m_allFrom := m_allFrom) (m_allBefore := m_allBefore) (m_founds := m_founds) (m_pieces := m_pieces) (m_writtenMany := m_writtenMany) (m_templateWide := m_templateWide) (m_tooMuch := m_tooMuch) (x := 8) h80) (fun oc G2 h => by rcases h with ⟨_, h, _⟩ <;> exact ⟨_, h⟩) (by omega) m_MO_has ml_MO_355 im_MO_has se_MO_has c_MO h80.2.2 (Nat.le_of_ble_eq_true rfl) d_MO_readRepeat_136 rfl ?_
                intro v G56 hq
                rcases hq with ⟨v57, hv, hGe, hq58⟩
                cases hv
                rw [hGe]
                change ab_W _ _ _ G55 139 [some (vR 80), some (vz be), some (vz m_at), some (vz 0)] [vz v57, vz 0, vz m_most0, vz m_least0, vR 80] _
                refine zz_icmp_eq (tgt := 146) d_MO_readRepeat_139 (by decide) (by decide) (by omega) (fun c59 => ?_) (fun c59 => ?_)
                · refine zz_iconst d_MO_readRepeat_146 ?_
                  refine ab_callV (d' := d - 1) (as := [vz m_least0, vz m_most0, vz 0]) (st := []) (r := _) (z_MO_repeat (o := o) (m_thrown := m_thrown) (m_taped := m_taped) (m_length := m_length) (m_out := m_out) (m_wide := m_wide) (m_gathered := m_gathered) (m_sets := m_sets) (m_ranges := m_ranges) (m_nodes := m_nodes) (m_at := ((m_at + be) + 0)) (m_flags := m_flags) (m_fault := m_fault) (m_place := m_place) (m_numbered := m_numbered) (m_depth := m_depth) (m_value := m_value) (m_isNot := m_isNot) (m_least0 := m_least0) (m_most0 := m_most0) (m_slot := m_slot) (m_work := m_work) (m_got := m_got) (m_rowMany := m_rowMany) (m_charAt := m_charAt) (m_charWide := m_charWide) (m_trail := m_trail) (m_isMatch := m_isMatch) (m_matchGroups := m_matchGroups) (m_allFrom := m_allFrom) (m_allBefore := m_allBefore) (m_founds := m_founds) (m_pieces := m_pieces) (m_writtenMany := m_writtenMany) (m_templateWide := m_templateWide) (m_tooMuch := m_tooMuch) (le := m_least0) (mo := m_most0) (lz := 0) h80 ptrI_0 (by omega) (by omega) (by omega) (by omega) (by omega) (by omega)) (fun oc G2 h => by rcases h with ⟨h, _⟩ <;> exact ⟨_, h⟩) (by omega) m_MO_repeat ml_MO_409 im_MO_repeat se_MO_repeat c_MO h80.2.2 (Nat.le_of_ble_eq_true rfl) d_MO_readRepeat_147 rfl ?_
                  intro v G60 hq
                  rcases hq with ⟨hv, hfk, hlk, hsk, hN80, pNtrI_0⟩
                  cases hv
                  have h84 := hfk.get h84 (by decide)
                  have h87 := hfk.get h87 (by decide)
                  have h88 := hfk.get h88 (by decide)
                  have h93 := hfk.get h93 (by decide)
                  have h81 := hfk.get h81 (by decide)
                  have h82 := hfk.get h82 (by decide)
                  have h91 := hfk.get h91 (by decide)
                  have h92 := hfk.get h92 (by decide)
                  have h110 := hfk.get h110 (by decide)
                  have h111 := hfk.get h111 (by decide)
                  have ptrI_0 := pNtrI_0
                  have hfr := hfr.tr hfk (by decide)
                  have hlen := hlk.trans hlen
                  have hsl := hsk.trans hsl
                  have h80 := hN80
                  change ab_W _ _ _ G60 150 [some (vR 80), some (vz be), some (vz m_at), some (vz 0)] [] _
                  refine ab_vret rfl d_MO_readRepeat_150 ?_
                  rw [hQ]; exact (Or.inl ⟨_, _, _, _, _, _, _, _, _, _, _, _, _, _, _, _, _, _, _, _, _, _, rfl, hfr, hlen, hsl, h80, h87, h88, h93, h91, h92, h110, h111, ptrI_0, (by omega), (by first | exact jmk | exact rgs_w jmk (by omega)), (by first | exact jrl | exact rgs_w jrl (by omega)), (by first | exact jrh | exact rgs_w jrh (by omega)), (by first | exact jns | exact rgs_w jns (by omega)), (by first | exact jnm | exact rgs_w jnm (by omega))⟩)
                · refine zz_iconst d_MO_readRepeat_142 ?_
                  refine ab_goto (tgt := 147) d_MO_readRepeat_143 (by decide) ?_
                  refine ab_callV (d' := d - 1) (as := [vz m_least0, vz m_most0, vz 1]) (st := []) (r := _) (z_MO_repeat (o := o) (m_thrown := m_thrown) (m_taped := m_taped) (m_length := m_length) (m_out := m_out) (m_wide := m_wide) (m_gathered := m_gathered) (m_sets := m_sets) (m_ranges := m_ranges) (m_nodes := m_nodes) (m_at := ((m_at + be) + 0)) (m_flags := m_flags) (m_fault := m_fault) (m_place := m_place) (m_numbered := m_numbered) (m_depth := m_depth) (m_value := m_value) (m_isNot := m_isNot) (m_least0 := m_least0) (m_most0 := m_most0) (m_slot := m_slot) (m_work := m_work) (m_got := m_got) (m_rowMany := m_rowMany) (m_charAt := m_charAt) (m_charWide := m_charWide) (m_trail := m_trail) (m_isMatch := m_isMatch) (m_matchGroups := m_matchGroups) (m_allFrom := m_allFrom) (m_allBefore := m_allBefore) (m_founds := m_founds) (m_pieces := m_pieces) (m_writtenMany := m_writtenMany) (m_templateWide := m_templateWide) (m_tooMuch := m_tooMuch) (le := m_least0) (mo := m_most0) (lz := 1) h80 ptrI_0 (by omega) (by omega) (by omega) (by omega) (by omega) (by omega)) (fun oc G2 h => by rcases h with ⟨h, _⟩ <;> exact ⟨_, h⟩) (by omega) m_MO_repeat ml_MO_409 im_MO_repeat se_MO_repeat c_MO h80.2.2 (Nat.le_of_ble_eq_true rfl) d_MO_readRepeat_147 rfl ?_
                  intro v G61 hq
                  rcases hq with ⟨hv, hfk, hlk, hsk, hN80, pNtrI_0⟩
                  cases hv
                  have h84 := hfk.get h84 (by decide)
                  have h87 := hfk.get h87 (by decide)
                  have h88 := hfk.get h88 (by decide)
                  have h93 := hfk.get h93 (by decide)
                  have h81 := hfk.get h81 (by decide)
                  have h82 := hfk.get h82 (by decide)
                  have h91 := hfk.get h91 (by decide)
                  have h92 := hfk.get h92 (by decide)
                  have h110 := hfk.get h110 (by decide)
                  have h111 := hfk.get h111 (by decide)
                  have ptrI_0 := pNtrI_0
                  have hfr := hfr.tr hfk (by decide)
                  have hlen := hlk.trans hlen
                  have hsl := hsk.trans hsl
                  have h80 := hN80
                  change ab_W _ _ _ G61 150 [some (vR 80), some (vz be), some (vz m_at), some (vz 0)] [] _
                  refine ab_vret rfl d_MO_readRepeat_150 ?_
                  rw [hQ]; exact (Or.inl ⟨_, _, _, _, _, _, _, _, _, _, _, _, _, _, _, _, _, _, _, _, _, _, rfl, hfr, hlen, hsl, h80, h87, h88, h93, h91, h92, h110, h111, ptrI_0, (by omega), (by first | exact jmk | exact rgs_w jmk (by omega)), (by first | exact jrl | exact rgs_w jrl (by omega)), (by first | exact jrh | exact rgs_w jrh (by omega)), (by first | exact jns | exact rgs_w jns (by omega)), (by first | exact jnm | exact rgs_w jnm (by omega))⟩)
              · refine zz_iconst d_MO_readRepeat_99 ?_
                refine ab_goto (tgt := 104) d_MO_readRepeat_100 (by decide) ?_
                refine ab_istore_n d_MO_readRepeat_104 (Nat.le_of_ble_eq_true rfl) (Nat.le_of_ble_eq_true rfl) rfl ?_
                change ab_W _ _ _ G49 105 [some (vR 80), some (vz be), some (vz m_at), some (vz 1)] [] _
                refine ab_aload_n d_MO_readRepeat_105 rfl ?_
                refine ab_dup d_MO_readRepeat_106 rfl ?_
                refine ab_getf (fs := mof m_thrown m_taped m_length m_out m_wide m_gathered m_sets m_ranges m_nodes (m_at + be) m_flags m_fault m_place m_numbered m_depth m_value m_isNot m_least0 m_most0 m_slot m_work m_got m_rowMany m_charAt m_charWide m_trail m_isMatch m_matchGroups m_allFrom m_allBefore m_founds m_pieces m_writtenMany m_templateWide m_tooMuch) f_MO_279 d_MO_readRepeat_107 h80.2.2 rfl ?_
                refine ab_iload_n d_MO_readRepeat_110 rfl ?_
                refine zz_if_eq (tgt := 118) d_MO_readRepeat_111 (by decide) (by decide) (fun c62 => absurd c62 (by decide)) (fun c62 => ?_)
                refine zz_iconst d_MO_readRepeat_114 ?_
                refine ab_goto (tgt := 119) d_MO_readRepeat_115 (by decide) ?_
                refine zz_iadd d_MO_readRepeat_119 ?_
                refine ab_putf (fs := mof m_thrown m_taped m_length m_out m_wide m_gathered m_sets m_ranges m_nodes (m_at + be) m_flags m_fault m_place m_numbered m_depth m_value m_isNot m_least0 m_most0 m_slot m_work m_got m_rowMany m_charAt m_charWide m_trail m_isMatch m_matchGroups m_allFrom m_allBefore m_founds m_pieces m_writtenMany m_templateWide m_tooMuch) f_MO_279 (Or.inl rfl) d_MO_readRepeat_120 h80.2.2 (Nat.le_of_ble_eq_true rfl) (fun _ => ⟨rfl, rfl⟩) (h80.2.1 (by decide)) ?_
                obtain ⟨G63, eG63⟩ : ∃ z : ab_G, z = List.set G49 80 (ab_ob 12 (mof m_thrown m_taped m_length m_out m_wide m_gathered m_sets m_ranges m_nodes ((m_at + be) + 1) m_flags m_fault m_place m_numbered m_depth m_value m_isNot m_least0 m_most0 m_slot m_work m_got m_rowMany m_charAt m_charWide m_trail m_isMatch m_matchGroups m_allFrom m_allBefore m_founds m_pieces m_writtenMany m_templateWide m_tooMuch)) := ⟨_, rfl⟩
                have h84 := h84.keep h80 eG63 (by decide)
                have h87 := h87.keep h80 eG63 (by decide)
                have h88 := h88.keep h80 eG63 (by decide)
                have h93 := h93.keep h80 eG63 (by decide)
                have h81 := h81.keep h80 eG63 (by decide)
                have h82 := h82.keep h80 eG63 (by decide)
                have h91 := h91.keep h80 eG63 (by decide)
                have h92 := h92.keep h80 eG63 (by decide)
                have h110 := h110.keep h80 eG63 (by decide)
                have h111 := h111.keep h80 eG63 (by decide)
                have hst := (fx.rf (o := o) (S := [280]) (G := G49)).wr h80 eG63 (List.mem_singleton.mpr rfl)
                have ptrI_0 := trI.fr hst ptrI_0 (by decide) (by decide) (by decide) (by decide) (by decide) (by decide) (by decide) (by decide) (by decide) (by decide) (by decide) (by decide) (by decide) (by decide) (by decide) (by decide) (by decide) (by decide)
                have hlen := (z_len eG63).trans hlen
                have hsl := (z_sl h80 eG63 rfl).trans hsl
                have hfr := hfr.wr h80 eG63 (by decide)
                have h80 := h80.kept eG63
                change ab_W _ _ _ (List.set G49 80 (ab_ob 12 (mof m_thrown m_taped m_length m_out m_wide m_gathered m_sets m_ranges m_nodes ((m_at + be) + 1) m_flags m_fault m_place m_numbered m_depth m_value m_isNot m_least0 m_most0 m_slot m_work m_got m_rowMany m_charAt m_charWide m_trail m_isMatch m_matchGroups m_allFrom m_allBefore m_founds m_pieces m_writtenMany m_templateWide m_tooMuch))) 123 [some (vR 80), some (vz be), some (vz m_at), some (vz 1)] [] _
                rw [← eG63]
                refine ab_aload_n d_MO_readRepeat_123 rfl ?_
                refine ab_aload_n d_MO_readRepeat_124 rfl ?_
                refine ab_getf (fs := mof m_thrown m_taped m_length m_out m_wide m_gathered m_sets m_ranges m_nodes ((m_at + be) + 1) m_flags m_fault m_place m_numbered m_depth m_value m_isNot m_least0 m_most0 m_slot m_work m_got m_rowMany m_charAt m_charWide m_trail m_isMatch m_matchGroups m_allFrom m_allBefore m_founds m_pieces m_writtenMany m_templateWide m_tooMuch) f_MO_403 d_MO_readRepeat_125 h80.2.2 rfl ?_
                refine ab_aload_n d_MO_readRepeat_128 rfl ?_
                refine ab_getf (fs := mof m_thrown m_taped m_length m_out m_wide m_gathered m_sets m_ranges m_nodes ((m_at + be) + 1) m_flags m_fault m_place m_numbered m_depth m_value m_isNot m_least0 m_most0 m_slot m_work m_got m_rowMany m_charAt m_charWide m_trail m_isMatch m_matchGroups m_allFrom m_allBefore m_founds m_pieces m_writtenMany m_templateWide m_tooMuch) f_MO_406 d_MO_readRepeat_129 h80.2.2 rfl ?_
                refine ab_iload_n d_MO_readRepeat_132 rfl ?_
                refine ab_aload_n d_MO_readRepeat_133 rfl ?_
                refine zz_bipush d_MO_readRepeat_134 (by decide) ?_
                refine ab_callV (d' := d - 1) (as := [vz 8]) (st := [vz 1, vz m_most0, vz m_least0, vR 80]) (r := _) (z_MO_has (o := o) (m_thrown := m_thrown) (m_taped := m_taped) (m_length := m_length) (m_out := m_out) (m_wide := m_wide) (m_gathered := m_gathered) (m_sets := m_sets) (m_ranges := m_ranges) (m_nodes := m_nodes) (m_at := ((m_at + be) + 1)) (m_flags := m_flags) (m_fault := m_fault) (m_place := m_place) (m_numbered := m_numbered) (m_depth := m_depth) (m_value := m_value) (m_isNot := m_isNot) (m_least0 := m_least0) (m_most0 := m_most0) (m_slot := m_slot) (m_work := m_work) (m_got := m_got) (m_rowMany := m_rowMany) (m_charAt := m_charAt) (m_charWide := m_charWide) (m_trail := m_trail) (m_isMatch := m_isMatch) (m_matchGroups := m_matchGroups) (m_allFrom := m_allFrom) (m_allBefore := m_allBefore) (m_founds := m_founds) (m_pieces := m_pieces) (m_writtenMany := m_writtenMany) (m_templateWide := m_templateWide) (m_tooMuch := m_tooMuch) (x := 8) h80) (fun oc G2 h => by rcases h with ⟨_, h, _⟩ <;> exact ⟨_, h⟩) (by omega) m_MO_has ml_MO_355 im_MO_has se_MO_has c_MO h80.2.2 (Nat.le_of_ble_eq_true rfl) d_MO_readRepeat_136 rfl ?_
                intro v G64 hq
                rcases hq with ⟨v65, hv, hGe, hq66⟩
                cases hv
                rw [hGe]
                change ab_W _ _ _ G63 139 [some (vR 80), some (vz be), some (vz m_at), some (vz 1)] [vz v65, vz 1, vz m_most0, vz m_least0, vR 80] _
                refine zz_icmp_eq (tgt := 146) d_MO_readRepeat_139 (by decide) (by decide) (by omega) (fun c67 => ?_) (fun c67 => ?_)
                · refine zz_iconst d_MO_readRepeat_146 ?_
                  refine ab_callV (d' := d - 1) (as := [vz m_least0, vz m_most0, vz 0]) (st := []) (r := _) (z_MO_repeat (o := o) (m_thrown := m_thrown) (m_taped := m_taped) (m_length := m_length) (m_out := m_out) (m_wide := m_wide) (m_gathered := m_gathered) (m_sets := m_sets) (m_ranges := m_ranges) (m_nodes := m_nodes) (m_at := ((m_at + be) + 1)) (m_flags := m_flags) (m_fault := m_fault) (m_place := m_place) (m_numbered := m_numbered) (m_depth := m_depth) (m_value := m_value) (m_isNot := m_isNot) (m_least0 := m_least0) (m_most0 := m_most0) (m_slot := m_slot) (m_work := m_work) (m_got := m_got) (m_rowMany := m_rowMany) (m_charAt := m_charAt) (m_charWide := m_charWide) (m_trail := m_trail) (m_isMatch := m_isMatch) (m_matchGroups := m_matchGroups) (m_allFrom := m_allFrom) (m_allBefore := m_allBefore) (m_founds := m_founds) (m_pieces := m_pieces) (m_writtenMany := m_writtenMany) (m_templateWide := m_templateWide) (m_tooMuch := m_tooMuch) (le := m_least0) (mo := m_most0) (lz := 0) h80 ptrI_0 (by omega) (by omega) (by omega) (by omega) (by omega) (by omega)) (fun oc G2 h => by rcases h with ⟨h, _⟩ <;> exact ⟨_, h⟩) (by omega) m_MO_repeat ml_MO_409 im_MO_repeat se_MO_repeat c_MO h80.2.2 (Nat.le_of_ble_eq_true rfl) d_MO_readRepeat_147 rfl ?_
                  intro v G68 hq
                  rcases hq with ⟨hv, hfk, hlk, hsk, hN80, pNtrI_0⟩
                  cases hv
                  have h84 := hfk.get h84 (by decide)
                  have h87 := hfk.get h87 (by decide)
                  have h88 := hfk.get h88 (by decide)
                  have h93 := hfk.get h93 (by decide)
                  have h81 := hfk.get h81 (by decide)
                  have h82 := hfk.get h82 (by decide)
                  have h91 := hfk.get h91 (by decide)
                  have h92 := hfk.get h92 (by decide)
                  have h110 := hfk.get h110 (by decide)
                  have h111 := hfk.get h111 (by decide)
                  have ptrI_0 := pNtrI_0
                  have hfr := hfr.tr hfk (by decide)
                  have hlen := hlk.trans hlen
                  have hsl := hsk.trans hsl
                  have h80 := hN80
                  change ab_W _ _ _ G68 150 [some (vR 80), some (vz be), some (vz m_at), some (vz 1)] [] _
                  refine ab_vret rfl d_MO_readRepeat_150 ?_
                  rw [hQ]; exact (Or.inl ⟨_, _, _, _, _, _, _, _, _, _, _, _, _, _, _, _, _, _, _, _, _, _, rfl, hfr, hlen, hsl, h80, h87, h88, h93, h91, h92, h110, h111, ptrI_0, (by omega), (by first | exact jmk | exact rgs_w jmk (by omega)), (by first | exact jrl | exact rgs_w jrl (by omega)), (by first | exact jrh | exact rgs_w jrh (by omega)), (by first | exact jns | exact rgs_w jns (by omega)), (by first | exact jnm | exact rgs_w jnm (by omega))⟩)
                · refine zz_iconst d_MO_readRepeat_142 ?_
                  refine ab_goto (tgt := 147) d_MO_readRepeat_143 (by decide) ?_
                  refine ab_callV (d' := d - 1) (as := [vz m_least0, vz m_most0, vz 1]) (st := []) (r := _) (z_MO_repeat (o := o) (m_thrown := m_thrown) (m_taped := m_taped) (m_length := m_length) (m_out := m_out) (m_wide := m_wide) (m_gathered := m_gathered) (m_sets := m_sets) (m_ranges := m_ranges) (m_nodes := m_nodes) (m_at := ((m_at + be) + 1)) (m_flags := m_flags) (m_fault := m_fault) (m_place := m_place) (m_numbered := m_numbered) (m_depth := m_depth) (m_value := m_value) (m_isNot := m_isNot) (m_least0 := m_least0) (m_most0 := m_most0) (m_slot := m_slot) (m_work := m_work) (m_got := m_got) (m_rowMany := m_rowMany) (m_charAt := m_charAt) (m_charWide := m_charWide) (m_trail := m_trail) (m_isMatch := m_isMatch) (m_matchGroups := m_matchGroups) (m_allFrom := m_allFrom) (m_allBefore := m_allBefore) (m_founds := m_founds) (m_pieces := m_pieces) (m_writtenMany := m_writtenMany) (m_templateWide := m_templateWide) (m_tooMuch := m_tooMuch) (le := m_least0) (mo := m_most0) (lz := 1) h80 ptrI_0 (by omega) (by omega) (by omega) (by omega) (by omega) (by omega)) (fun oc G2 h => by rcases h with ⟨h, _⟩ <;> exact ⟨_, h⟩) (by omega) m_MO_repeat ml_MO_409 im_MO_repeat se_MO_repeat c_MO h80.2.2 (Nat.le_of_ble_eq_true rfl) d_MO_readRepeat_147 rfl ?_
                  intro v G69 hq
                  rcases hq with ⟨hv, hfk, hlk, hsk, hN80, pNtrI_0⟩
                  cases hv
                  have h84 := hfk.get h84 (by decide)
                  have h87 := hfk.get h87 (by decide)
                  have h88 := hfk.get h88 (by decide)
                  have h93 := hfk.get h93 (by decide)
                  have h81 := hfk.get h81 (by decide)
                  have h82 := hfk.get h82 (by decide)
                  have h91 := hfk.get h91 (by decide)
                  have h92 := hfk.get h92 (by decide)
                  have h110 := hfk.get h110 (by decide)
                  have h111 := hfk.get h111 (by decide)
                  have ptrI_0 := pNtrI_0
                  have hfr := hfr.tr hfk (by decide)
                  have hlen := hlk.trans hlen
                  have hsl := hsk.trans hsl
                  have h80 := hN80
                  change ab_W _ _ _ G69 150 [some (vR 80), some (vz be), some (vz m_at), some (vz 1)] [] _
                  refine ab_vret rfl d_MO_readRepeat_150 ?_
                  rw [hQ]; exact (Or.inl ⟨_, _, _, _, _, _, _, _, _, _, _, _, _, _, _, _, _, _, _, _, _, _, rfl, hfr, hlen, hsl, h80, h87, h88, h93, h91, h92, h110, h111, ptrI_0, (by omega), (by first | exact jmk | exact rgs_w jmk (by omega)), (by first | exact jrl | exact rgs_w jrl (by omega)), (by first | exact jrh | exact rgs_w jrh (by omega)), (by first | exact jns | exact rgs_w jns (by omega)), (by first | exact jnm | exact rgs_w jnm (by omega))⟩)
            · cases hv
              rw [hGe]
              change ab_W _ _ _ G49 94 [some (vR 80), some (vz be), some (vz m_at), none] [vz (-1)] _
              refine zz_bipush d_MO_readRepeat_94 (by decide) ?_
              refine zz_icmp_ne (tgt := 103) d_MO_readRepeat_96 (by decide) (by decide) (by decide) (fun c70 => ?_) (fun c70 => absurd c70 (by decide))
              refine zz_iconst d_MO_readRepeat_103 ?_
              refine ab_istore_n d_MO_readRepeat_104 (Nat.le_of_ble_eq_true rfl) (Nat.le_of_ble_eq_true rfl) rfl ?_
              change ab_W _ _ _ G49 105 [some (vR 80), some (vz be), some (vz m_at), some (vz 0)] [] _
              refine ab_aload_n d_MO_readRepeat_105 rfl ?_
              refine ab_dup d_MO_readRepeat_106 rfl ?_
              refine ab_getf (fs := mof m_thrown m_taped m_length m_out m_wide m_gathered m_sets m_ranges m_nodes (m_at + be) m_flags m_fault m_place m_numbered m_depth m_value m_isNot m_least0 m_most0 m_slot m_work m_got m_rowMany m_charAt m_charWide m_trail m_isMatch m_matchGroups m_allFrom m_allBefore m_founds m_pieces m_writtenMany m_templateWide m_tooMuch) f_MO_279 d_MO_readRepeat_107 h80.2.2 rfl ?_
              refine ab_iload_n d_MO_readRepeat_110 rfl ?_
              refine zz_if_eq (tgt := 118) d_MO_readRepeat_111 (by decide) (by decide) (fun c71 => ?_) (fun c71 => absurd c71 (by decide))
              refine zz_iconst d_MO_readRepeat_118 ?_
              refine zz_iadd d_MO_readRepeat_119 ?_
              refine ab_putf (fs := mof m_thrown m_taped m_length m_out m_wide m_gathered m_sets m_ranges m_nodes (m_at + be) m_flags m_fault m_place m_numbered m_depth m_value m_isNot m_least0 m_most0 m_slot m_work m_got m_rowMany m_charAt m_charWide m_trail m_isMatch m_matchGroups m_allFrom m_allBefore m_founds m_pieces m_writtenMany m_templateWide m_tooMuch) f_MO_279 (Or.inl rfl) d_MO_readRepeat_120 h80.2.2 (Nat.le_of_ble_eq_true rfl) (fun _ => ⟨rfl, rfl⟩) (h80.2.1 (by decide)) ?_
              obtain ⟨G72, eG72⟩ : ∃ z : ab_G, z = List.set G49 80 (ab_ob 12 (mof m_thrown m_taped m_length m_out m_wide m_gathered m_sets m_ranges m_nodes ((m_at + be) + 0) m_flags m_fault m_place m_numbered m_depth m_value m_isNot m_least0 m_most0 m_slot m_work m_got m_rowMany m_charAt m_charWide m_trail m_isMatch m_matchGroups m_allFrom m_allBefore m_founds m_pieces m_writtenMany m_templateWide m_tooMuch)) := ⟨_, rfl⟩
              have h84 := h84.keep h80 eG72 (by decide)
              have h87 := h87.keep h80 eG72 (by decide)
              have h88 := h88.keep h80 eG72 (by decide)
              have h93 := h93.keep h80 eG72 (by decide)
              have h81 := h81.keep h80 eG72 (by decide)
              have h82 := h82.keep h80 eG72 (by decide)
              have h91 := h91.keep h80 eG72 (by decide)
              have h92 := h92.keep h80 eG72 (by decide)
              have h110 := h110.keep h80 eG72 (by decide)
              have h111 := h111.keep h80 eG72 (by decide)
              have hst := (fx.rf (o := o) (S := [280]) (G := G49)).wr h80 eG72 (List.mem_singleton.mpr rfl)
              have ptrI_0 := trI.fr hst ptrI_0 (by decide) (by decide) (by decide) (by decide) (by decide) (by decide) (by decide) (by decide) (by decide) (by decide) (by decide) (by decide) (by decide) (by decide) (by decide) (by decide) (by decide) (by decide)
              have hlen := (z_len eG72).trans hlen
              have hsl := (z_sl h80 eG72 rfl).trans hsl
              have hfr := hfr.wr h80 eG72 (by decide)
              have h80 := h80.kept eG72
              change ab_W _ _ _ (List.set G49 80 (ab_ob 12 (mof m_thrown m_taped m_length m_out m_wide m_gathered m_sets m_ranges m_nodes ((m_at + be) + 0) m_flags m_fault m_place m_numbered m_depth m_value m_isNot m_least0 m_most0 m_slot m_work m_got m_rowMany m_charAt m_charWide m_trail m_isMatch m_matchGroups m_allFrom m_allBefore m_founds m_pieces m_writtenMany m_templateWide m_tooMuch))) 123 [some (vR 80), some (vz be), some (vz m_at), some (vz 0)] [] _
              rw [← eG72]
              refine ab_aload_n d_MO_readRepeat_123 rfl ?_
              refine ab_aload_n d_MO_readRepeat_124 rfl ?_
              refine ab_getf (fs := mof m_thrown m_taped m_length m_out m_wide m_gathered m_sets m_ranges m_nodes ((m_at + be) + 0) m_flags m_fault m_place m_numbered m_depth m_value m_isNot m_least0 m_most0 m_slot m_work m_got m_rowMany m_charAt m_charWide m_trail m_isMatch m_matchGroups m_allFrom m_allBefore m_founds m_pieces m_writtenMany m_templateWide m_tooMuch) f_MO_403 d_MO_readRepeat_125 h80.2.2 rfl ?_
              refine ab_aload_n d_MO_readRepeat_128 rfl ?_
              refine ab_getf (fs := mof m_thrown m_taped m_length m_out m_wide m_gathered m_sets m_ranges m_nodes ((m_at + be) + 0) m_flags m_fault m_place m_numbered m_depth m_value m_isNot m_least0 m_most0 m_slot m_work m_got m_rowMany m_charAt m_charWide m_trail m_isMatch m_matchGroups m_allFrom m_allBefore m_founds m_pieces m_writtenMany m_templateWide m_tooMuch) f_MO_406 d_MO_readRepeat_129 h80.2.2 rfl ?_
              refine ab_iload_n d_MO_readRepeat_132 rfl ?_
              refine ab_aload_n d_MO_readRepeat_133 rfl ?_
              refine zz_bipush d_MO_readRepeat_134 (by decide) ?_
              refine ab_callV (d' := d - 1) (as := [vz 8]) (st := [vz 0, vz m_most0, vz m_least0, vR 80]) (r := _) (z_MO_has (o := o) (m_thrown := m_thrown) (m_taped := m_taped) (m_length := m_length) (m_out := m_out) (m_wide := m_wide) (m_gathered := m_gathered) (m_sets := m_sets) (m_ranges := m_ranges) (m_nodes := m_nodes) (m_at := ((m_at + be) + 0)) (m_flags := m_flags) (m_fault := m_fault) (m_place := m_place) (m_numbered := m_numbered) (m_depth := m_depth) (m_value := m_value) (m_isNot := m_isNot) (m_least0 := m_least0) (m_most0 := m_most0) (m_slot := m_slot) (m_work := m_work) (m_got := m_got) (m_rowMany := m_rowMany) (m_charAt := m_charAt) (m_charWide := m_charWide) (m_trail := m_trail) (m_isMatch := m_isMatch) (m_matchGroups := m_matchGroups) (m_allFrom := m_allFrom) (m_allBefore := m_allBefore) (m_founds := m_founds) (m_pieces := m_pieces) (m_writtenMany := m_writtenMany) (m_templateWide := m_templateWide) (m_tooMuch := m_tooMuch) (x := 8) h80) (fun oc G2 h => by rcases h with ⟨_, h, _⟩ <;> exact ⟨_, h⟩) (by omega) m_MO_has ml_MO_355 im_MO_has se_MO_has c_MO h80.2.2 (Nat.le_of_ble_eq_true rfl) d_MO_readRepeat_136 rfl ?_
              intro v G73 hq
              rcases hq with ⟨v74, hv, hGe, hq75⟩
              cases hv
              rw [hGe]
              change ab_W _ _ _ G72 139 [some (vR 80), some (vz be), some (vz m_at), some (vz 0)] [vz v74, vz 0, vz m_most0, vz m_least0, vR 80] _
              refine zz_icmp_eq (tgt := 146) d_MO_readRepeat_139 (by decide) (by decide) (by omega) (fun c76 => ?_) (fun c76 => ?_)
              · refine zz_iconst d_MO_readRepeat_146 ?_
                refine ab_callV (d' := d - 1) (as := [vz m_least0, vz m_most0, vz 0]) (st := []) (r := _) (z_MO_repeat (o := o) (m_thrown := m_thrown) (m_taped := m_taped) (m_length := m_length) (m_out := m_out) (m_wide := m_wide) (m_gathered := m_gathered) (m_sets := m_sets) (m_ranges := m_ranges) (m_nodes := m_nodes) (m_at := ((m_at + be) + 0)) (m_flags := m_flags) (m_fault := m_fault) (m_place := m_place) (m_numbered := m_numbered) (m_depth := m_depth) (m_value := m_value) (m_isNot := m_isNot) (m_least0 := m_least0) (m_most0 := m_most0) (m_slot := m_slot) (m_work := m_work) (m_got := m_got) (m_rowMany := m_rowMany) (m_charAt := m_charAt) (m_charWide := m_charWide) (m_trail := m_trail) (m_isMatch := m_isMatch) (m_matchGroups := m_matchGroups) (m_allFrom := m_allFrom) (m_allBefore := m_allBefore) (m_founds := m_founds) (m_pieces := m_pieces) (m_writtenMany := m_writtenMany) (m_templateWide := m_templateWide) (m_tooMuch := m_tooMuch) (le := m_least0) (mo := m_most0) (lz := 0) h80 ptrI_0 (by omega) (by omega) (by omega) (by omega) (by omega) (by omega)) (fun oc G2 h => by rcases h with ⟨h, _⟩ <;> exact ⟨_, h⟩) (by omega) m_MO_repeat ml_MO_409 im_MO_repeat se_MO_repeat c_MO h80.2.2 (Nat.le_of_ble_eq_true rfl) d_MO_readRepeat_147 rfl ?_
                intro v G77 hq
                rcases hq with ⟨hv, hfk, hlk, hsk, hN80, pNtrI_0⟩
                cases hv
                have h84 := hfk.get h84 (by decide)
                have h87 := hfk.get h87 (by decide)
                have h88 := hfk.get h88 (by decide)
                have h93 := hfk.get h93 (by decide)
                have h81 := hfk.get h81 (by decide)
                have h82 := hfk.get h82 (by decide)
                have h91 := hfk.get h91 (by decide)
                have h92 := hfk.get h92 (by decide)
                have h110 := hfk.get h110 (by decide)
                have h111 := hfk.get h111 (by decide)
                have ptrI_0 := pNtrI_0
                have hfr := hfr.tr hfk (by decide)
                have hlen := hlk.trans hlen
                have hsl := hsk.trans hsl
                have h80 := hN80
                change ab_W _ _ _ G77 150 [some (vR 80), some (vz be), some (vz m_at), some (vz 0)] [] _
                refine ab_vret rfl d_MO_readRepeat_150 ?_
                rw [hQ]; exact (Or.inl ⟨_, _, _, _, _, _, _, _, _, _, _, _, _, _, _, _, _, _, _, _, _, _, rfl, hfr, hlen, hsl, h80, h87, h88, h93, h91, h92, h110, h111, ptrI_0, (by omega), (by first | exact jmk | exact rgs_w jmk (by omega)), (by first | exact jrl | exact rgs_w jrl (by omega)), (by first | exact jrh | exact rgs_w jrh (by omega)), (by first | exact jns | exact rgs_w jns (by omega)), (by first | exact jnm | exact rgs_w jnm (by omega))⟩)
              · refine zz_iconst d_MO_readRepeat_142 ?_
                refine ab_goto (tgt := 147) d_MO_readRepeat_143 (by decide) ?_
                refine ab_callV (d' := d - 1) (as := [vz m_least0, vz m_most0, vz 1]) (st := []) (r := _) (z_MO_repeat (o := o) (m_thrown := m_thrown) (m_taped := m_taped) (m_length := m_length) (m_out := m_out) (m_wide := m_wide) (m_gathered := m_gathered) (m_sets := m_sets) (m_ranges := m_ranges) (m_nodes := m_nodes) (m_at := ((m_at + be) + 0)) (m_flags := m_flags) (m_fault := m_fault) (m_place := m_place) (m_numbered := m_numbered) (m_depth := m_depth) (m_value := m_value) (m_isNot := m_isNot) (m_least0 := m_least0) (m_most0 := m_most0) (m_slot := m_slot) (m_work := m_work) (m_got := m_got) (m_rowMany := m_rowMany) (m_charAt := m_charAt) (m_charWide := m_charWide) (m_trail := m_trail) (m_isMatch := m_isMatch) (m_matchGroups := m_matchGroups) (m_allFrom := m_allFrom) (m_allBefore := m_allBefore) (m_founds := m_founds) (m_pieces := m_pieces) (m_writtenMany := m_writtenMany) (m_templateWide := m_templateWide) (m_tooMuch := m_tooMuch) (le := m_least0) (mo := m_most0) (lz := 1) h80 ptrI_0 (by omega) (by omega) (by omega) (by omega) (by omega) (by omega)) (fun oc G2 h => by rcases h with ⟨h, _⟩ <;> exact ⟨_, h⟩) (by omega) m_MO_repeat ml_MO_409 im_MO_repeat se_MO_repeat c_MO h80.2.2 (Nat.le_of_ble_eq_true rfl) d_MO_readRepeat_147 rfl ?_
                intro v G78 hq
                rcases hq with ⟨hv, hfk, hlk, hsk, hN80, pNtrI_0⟩
                cases hv
                have h84 := hfk.get h84 (by decide)
                have h87 := hfk.get h87 (by decide)
                have h88 := hfk.get h88 (by decide)
                have h93 := hfk.get h93 (by decide)
                have h81 := hfk.get h81 (by decide)
                have h82 := hfk.get h82 (by decide)
                have h91 := hfk.get h91 (by decide)
                have h92 := hfk.get h92 (by decide)
                have h110 := hfk.get h110 (by decide)
                have h111 := hfk.get h111 (by decide)
                have ptrI_0 := pNtrI_0
                have hfr := hfr.tr hfk (by decide)
                have hlen := hlk.trans hlen
                have hsl := hsk.trans hsl
                have h80 := hN80
                change ab_W _ _ _ G78 150 [some (vR 80), some (vz be), some (vz m_at), some (vz 0)] [] _
                refine ab_vret rfl d_MO_readRepeat_150 ?_
                rw [hQ]; exact (Or.inl ⟨_, _, _, _, _, _, _, _, _, _, _, _, _, _, _, _, _, _, _, _, _, _, rfl, hfr, hlen, hsl, h80, h87, h88, h93, h91, h92, h110, h111, ptrI_0, (by omega), (by first | exact jmk | exact rgs_w jmk (by omega)), (by first | exact jrl | exact rgs_w jrl (by omega)), (by first | exact jrh | exact rgs_w jrh (by omega)), (by first | exact jns | exact rgs_w jns (by omega)), (by first | exact jnm | exact rgs_w jnm (by omega))⟩)
          · refine ab_aload_n d_MO_readRepeat_64 rfl ?_
            refine zz_bipush d_MO_readRepeat_65 (by decide) ?_
            refine ab_iload_n d_MO_readRepeat_67 rfl ?_
            refine ab_callV (d' := d - 1) (as := [vz 9, vz m_at]) (st := []) (r := _) (z_MO_wrong (o := o) (m_thrown := m_thrown) (m_taped := m_taped) (m_length := m_length) (m_out := m_out) (m_wide := m_wide) (m_gathered := m_gathered) (m_sets := m_sets) (m_ranges := m_ranges) (m_nodes := m_nodes) (m_at := m_at) (m_flags := m_flags) (m_fault := m_fault) (m_place := m_place) (m_numbered := m_numbered) (m_depth := m_depth) (m_value := m_value) (m_isNot := m_isNot) (m_least0 := m_least0) (m_most0 := m_most0) (m_slot := m_slot) (m_work := m_work) (m_got := m_got) (m_rowMany := m_rowMany) (m_charAt := m_charAt) (m_charWide := m_charWide) (m_trail := m_trail) (m_isMatch := m_isMatch) (m_matchGroups := m_matchGroups) (m_allFrom := m_allFrom) (m_allBefore := m_allBefore) (m_founds := m_founds) (m_pieces := m_pieces) (m_writtenMany := m_writtenMany) (m_templateWide := m_templateWide) (m_tooMuch := m_tooMuch) (x := 9) (y := m_at) h80 (by omega) (by omega)) (fun oc G2 h => by rcases h with ⟨_, _, h, _⟩ <;> exact ⟨_, h⟩) (by omega) m_MO_wrong ml_MO_304 im_MO_wrong se_MO_wrong c_MO h80.2.2 (Nat.le_of_ble_eq_true rfl) d_MO_readRepeat_68 rfl ?_
            intro v G79 hq
            rcases hq with ⟨f280, p281, hv, hfk, hlk, hsk, hN80, hq82⟩
            cases hv
            have h84 := hfk.get h84 (by decide)
            have h87 := hfk.get h87 (by decide)
            have h88 := hfk.get h88 (by decide)
            have h93 := hfk.get h93 (by decide)
            have h81 := hfk.get h81 (by decide)
            have h82 := hfk.get h82 (by decide)
            have h91 := hfk.get h91 (by decide)
            have h92 := hfk.get h92 (by decide)
            have h110 := hfk.get h110 (by decide)
            have h111 := hfk.get h111 (by decide)
            have h94 := hfk.get h94 (by decide)
            have h95 := hfk.get h95 (by decide)
            have h96 := hfk.get h96 (by decide)
            have h97 := hfk.get h97 (by decide)
            have h98 := hfk.get h98 (by decide)
            have h99 := hfk.get h99 (by decide)
            have h100 := hfk.get h100 (by decide)
            have h101 := hfk.get h101 (by decide)
            have h90 := hfk.get h90 (by decide)
            have h89 := hfk.get h89 (by decide)
            have h105 := hfk.get h105 (by decide)
            have h106 := hfk.get h106 (by decide)
            have h107 := hfk.get h107 (by decide)
            have h108 := hfk.get h108 (by decide)
            have h109 := hfk.get h109 (by decide)
            have h102 := hfk.get h102 (by decide)
            have h103 := hfk.get h103 (by decide)
            have h104 := hfk.get h104 (by decide)
            have hfr := hfr.tr hfk (by decide)
            have hlen := hlk.trans hlen
            have hsl := hsk.trans hsl
            have h80 := hN80
            change ab_W _ _ _ G79 71 [some (vR 80), some (vz be), some (vz m_at), none] [] _
            refine ab_aload_n d_MO_readRepeat_71 rfl ?_
            refine ab_getf (fs := mof m_thrown m_taped m_length m_out m_wide m_gathered m_sets m_ranges m_nodes m_at m_flags f280 p281 m_numbered m_depth m_value m_isNot m_least0 m_most0 m_slot m_work m_got m_rowMany m_charAt m_charWide m_trail m_isMatch m_matchGroups m_allFrom m_allBefore m_founds m_pieces m_writtenMany m_templateWide m_tooMuch) f_MO_273 d_MO_readRepeat_72 h80.2.2 rfl ?_
            refine zz_if_le (tgt := 79) d_MO_readRepeat_75 (by decide) (by omega) (fun c83 => absurd c83 (by omega)) (fun c83 => ?_)
            have ptrI_0 : trI o G79 0 m_nodes m_sets (m_depth + 1) (-1) 0 0 := ⟨K, O, Fi, Be, Le, Mo, Z, LZ, SM, SA, QF, QL, AF, AL, SD, OA, OF, ON, h94, h95, h96, h97, h98, h99, h100, h101, h90, h89, h105, h106, h107, h108, h109, h102, h103, h104, jk, jo, jfi, jbe, jle, jmo, jz, jlz, jsm, jsa, jqf, jql, jaf, jal, jsd, joa, jof, jon, jt, (by omega), (fun h => absurd h (by decide)), (fun h => absurd h (by decide)), (fun h => absurd h (by decide)), (fun h => absurd h (by decide)), (fun h => absurd h (by decide)), jss⟩
            refine ab_vret rfl d_MO_readRepeat_78 ?_
            rw [hQ]; exact (Or.inr ⟨_, _, _, _, _, _, _, _, _, _, _, _, _, _, _, _, _, _, _, _, _, _, rfl, hfr, hlen, hsl, h80, h87, h88, h93, h91, h92, h110, h111, ptrI_0, (by omega), (by first | exact jmk | exact rgs_w jmk (by omega)), (by first | exact jrl | exact rgs_w jrl (by omega)), (by first | exact jrh | exact rgs_w jrh (by omega)), (by first | exact jns | exact rgs_w jns (by omega)), (by first | exact jnm | exact rgs_w jnm (by omega))⟩)
  · refine ab_aload_n d_MO_readRepeat_18 rfl ?_
    refine zz_bipush d_MO_readRepeat_19 (by decide) ?_
    refine ab_iload_n d_MO_readRepeat_21 rfl ?_
    refine ab_callV (d' := d - 1) (as := [vz 8, vz m_at]) (st := []) (r := _) (z_MO_wrong (o := o) (m_thrown := m_thrown) (m_taped := m_taped) (m_length := m_length) (m_out := m_out) (m_wide := m_wide) (m_gathered := m_gathered) (m_sets := m_sets) (m_ranges := m_ranges) (m_nodes := m_nodes) (m_at := m_at) (m_flags := m_flags) (m_fault := m_fault) (m_place := m_place) (m_numbered := m_numbered) (m_depth := m_depth) (m_value := m_value) (m_isNot := m_isNot) (m_least0 := m_least0) (m_most0 := m_most0) (m_slot := m_slot) (m_work := m_work) (m_got := m_got) (m_rowMany := m_rowMany) (m_charAt := m_charAt) (m_charWide := m_charWide) (m_trail := m_trail) (m_isMatch := m_isMatch) (m_matchGroups := m_matchGroups) (m_allFrom := m_allFrom) (m_allBefore := m_allBefore) (m_founds := m_founds) (m_pieces := m_pieces) (m_writtenMany := m_writtenMany) (m_templateWide := m_templateWide) (m_tooMuch := m_tooMuch) (x := 8) (y := m_at) h80 (by omega) (by omega)) (fun oc G2 h => by rcases h with ⟨_, _, h, _⟩ <;> exact ⟨_, h⟩) (by omega) m_MO_wrong ml_MO_304 im_MO_wrong se_MO_wrong c_MO h80.2.2 (Nat.le_of_ble_eq_true rfl) d_MO_readRepeat_22 rfl ?_
    intro v G84 hq
    rcases hq with ⟨f285, p286, hv, hfk, hlk, hsk, hN80, hq87⟩
    cases hv
    have h84 := hfk.get h84 (by decide)
    have h87 := hfk.get h87 (by decide)
    have h88 := hfk.get h88 (by decide)
    have h93 := hfk.get h93 (by decide)
    have h81 := hfk.get h81 (by decide)
    have h82 := hfk.get h82 (by decide)
    have h91 := hfk.get h91 (by decide)
    have h92 := hfk.get h92 (by decide)
    have h110 := hfk.get h110 (by decide)
    have h111 := hfk.get h111 (by decide)
    have h94 := hfk.get h94 (by decide)
    have h95 := hfk.get h95 (by decide)
    have h96 := hfk.get h96 (by decide)
    have h97 := hfk.get h97 (by decide)
    have h98 := hfk.get h98 (by decide)
    have h99 := hfk.get h99 (by decide)
    have h100 := hfk.get h100 (by decide)
    have h101 := hfk.get h101 (by decide)
    have h90 := hfk.get h90 (by decide)
    have h89 := hfk.get h89 (by decide)
    have h105 := hfk.get h105 (by decide)
    have h106 := hfk.get h106 (by decide)
    have h107 := hfk.get h107 (by decide)
    have h108 := hfk.get h108 (by decide)
    have h109 := hfk.get h109 (by decide)
    have h102 := hfk.get h102 (by decide)
    have h103 := hfk.get h103 (by decide)
    have h104 := hfk.get h104 (by decide)
    have hfr := hfr.tr hfk (by decide)
    have hlen := hlk.trans hlen
    have hsl := hsk.trans hsl
    have h80 := hN80
    change ab_W _ _ _ G84 25 [some (vR 80), some (vz be), some (vz m_at), none] [] _
    refine ab_goto (tgt := 71) d_MO_readRepeat_25 (by decide) ?_
    refine ab_aload_n d_MO_readRepeat_71 rfl ?_
    refine ab_getf (fs := mof m_thrown m_taped m_length m_out m_wide m_gathered m_sets m_ranges m_nodes m_at m_flags f285 p286 m_numbered m_depth m_value m_isNot m_least0 m_most0 m_slot m_work m_got m_rowMany m_charAt m_charWide m_trail m_isMatch m_matchGroups m_allFrom m_allBefore m_founds m_pieces m_writtenMany m_templateWide m_tooMuch) f_MO_273 d_MO_readRepeat_72 h80.2.2 rfl ?_
    refine zz_if_le (tgt := 79) d_MO_readRepeat_75 (by decide) (by omega) (fun c88 => absurd c88 (by omega)) (fun c88 => ?_)
    have ptrI_0 : trI o G84 0 m_nodes m_sets (m_depth + 1) (-1) 0 0 := ⟨K, O, Fi, Be, Le, Mo, Z, LZ, SM, SA, QF, QL, AF, AL, SD, OA, OF, ON, h94, h95, h96, h97, h98, h99, h100, h101, h90, h89, h105, h106, h107, h108, h109, h102, h103, h104, jk, jo, jfi, jbe, jle, jmo, jz, jlz, jsm, jsa, jqf, jql, jaf, jal, jsd, joa, jof, jon, jt, (by omega), (fun h => absurd h (by decide)), (fun h => absurd h (by decide)), (fun h => absurd h (by decide)), (fun h => absurd h (by decide)), (fun h => absurd h (by decide)), jss⟩
    refine ab_vret rfl d_MO_readRepeat_78 ?_
    rw [hQ]; exact (Or.inr ⟨_, _, _, _, _, _, _, _, _, _, _, _, _, _, _, _, _, _, _, _, _, _, rfl, hfr, hlen, hsl, h80, h87, h88, h93, h91, h92, h110, h111, ptrI_0, (by omega), (by first | exact jmk | exact rgs_w jmk (by omega)), (by first | exact jrl | exact rgs_w jrl (by omega)), (by first | exact jrh | exact rgs_w jrh (by omega)), (by first | exact jns | exact rgs_w jns (by omega)), (by first | exact jnm | exact rgs_w jnm (by omega))⟩)
