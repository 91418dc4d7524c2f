set_option maxRecDepth 100000 in
set_option maxHeartbeats 4000000 in
theorem z_MO_readPart {X : ab_X} {d : Nat} {o : Nat → Nat} {G : ab_G} {m_thrown : Int} {m_taped : Int} {m_length : Int} {m_out : Int} {m_wide : Int} {m_gathered : Int} {m_sets : Int} {m_ranges : Int} {m_nodes : Int} {m_at : Int} {m_flags : Int} {m_fault : Int} {m_place : Int} {m_numbered : Int} {m_depth : Int} {m_value : Int} {m_isNot : Int} {m_least0 : Int} {m_most0 : Int} {m_slot : Int} {m_work : Int} {m_got : Int} {m_rowMany : Int} {m_charAt : Int} {m_charWide : Int} {m_trail : Int} {m_isMatch : Int} {m_matchGroups : Int} {m_allFrom : Int} {m_allBefore : Int} {m_founds : Int} {m_pieces : Int} {m_writtenMany : Int} {m_templateWide : Int} {m_tooMuch : Int} {A_tape : Int → Int} {LO : Int → Int} {HI : Int → Int} {MK : Int → Int} {RL : Int → Int} {RH : Int → Int} {NS : Int → Int} {NM : Int → Int} (h80 : cc o G 80 280 (ab_ob 12 (mof m_thrown m_taped m_length m_out m_wide m_gathered m_sets m_ranges m_nodes m_at m_flags m_fault m_place m_numbered m_depth m_value m_isNot m_least0 m_most0 m_slot m_work m_got m_rowMany m_charAt m_charWide m_trail m_isMatch m_matchGroups m_allFrom m_allBefore m_founds m_pieces m_writtenMany m_templateWide m_tooMuch))) (h84 : cc o G 84 284 (za 2000 A_tape)) (h87 : cc o G 87 287 (za 9000 LO)) (h88 : cc o G 88 288 (za 9000 HI)) (h93 : cc o G 93 293 (zb 1200 MK)) (h81 : cc o G 81 281 (za 13 tbA)) (h82 : cc o G 82 282 (za 66 tbT)) (h91 : cc o G 91 291 (za 24000 RL)) (h92 : cc o G 92 292 (za 24000 RH)) (h110 : cc o G 110 310 (za 120 NS)) (h111 : cc o G 111 311 (za 10 NM)) (ptrI_0 : trI o G 0 m_nodes m_sets (m_depth + 1) (-1) 0 0) (n18 : ab_n0 = 18) (cta : 0 ≤ m_taped ∧ m_taped ≤ 2000) (jtp : rgs A_tape 2000 0 255) (jmk : rgs MK 1200 0 1) (jrl : rgs RL 24000 0 1114111) (jrh : rgs RH 24000 0 1114111) (jns : rgs NS 120 0 255) (jnm : rgs NM 10 0 12) (cf : m_fault = 0) (cat : 0 ≤ m_at ∧ m_at < m_taped) (cpo : 0 ≤ m_nodes ∧ m_nodes + 2 * m_depth + 0 ≤ 2 * m_at ∧ 0 ≤ m_sets ∧ m_sets + 0 ≤ m_at ∧ 0 ≤ m_ranges ∧ m_ranges + 0 ≤ 12 * m_at ∧ 0 ≤ m_depth ∧ m_depth ≤ 30 ∧ 0 ≤ m_numbered ∧ m_numbered ≤ 9 ∧ -2147483648 ≤ m_flags ∧ m_flags ≤ 2147483647 ∧ -2147483648 ≤ m_value ∧ m_value ≤ 2147483647) (hd : 8 ≤ d) : ab_F X d y_MO_readPart (.code y_MO_readPart b_MO_readPart 4 none) [vR 80] G (fun oc G2 => (∃ a2 : Int, ∃ v2 : Int, ∃ nt2 : Int, ∃ w2 : Int, ∃ g2 : Int, ∃ s2 : Int, ∃ r2 : Int, ∃ n2 : Int, ∃ fl2 : Int, ∃ nu2 : Int, ∃ d2 : Int, ∃ le2 : Int, ∃ mo2 : Int, ∃ f2 : Int, ∃ p2 : Int, ∃ LO2 : Int → Int, ∃ HI2 : Int → Int, ∃ MK2 : Int → Int, ∃ RL2 : Int → Int, ∃ RH2 : Int → Int, ∃ NS2 : Int → Int, ∃ NM2 : Int → Int, oc = .returned none ∧ fx o o [280, 287, 288, 293, 291, 292, 310, 311, 294, 295, 296, 297, 298, 299, 300, 301, 290, 289, 305, 306, 307, 308, 309, 302, 303, 304] G G2 ∧ G2.length = G.length ∧ ab_slots G2 = ab_slots G ∧ cc o G2 80 280 (ab_ob 12 (mof m_thrown m_taped m_length m_out w2 g2 s2 r2 n2 a2 fl2 f2 p2 nu2 d2 v2 nt2 le2 mo2 m_slot m_work m_got m_rowMany m_charAt m_charWide m_trail m_isMatch m_matchGroups m_allFrom m_allBefore m_founds m_pieces m_writtenMany m_templateWide m_tooMuch)) ∧ cc o G2 87 287 (za 9000 LO2) ∧ cc o G2 88 288 (za 9000 HI2) ∧ cc o G2 93 293 (zb 1200 MK2) ∧ cc o G2 91 291 (za 24000 RL2) ∧ cc o G2 92 292 (za 24000 RH2) ∧ cc o G2 110 310 (za 120 NS2) ∧ cc o G2 111 311 (za 10 NM2) ∧ trI o G2 0 n2 s2 (d2 + 1) (-1) 0 0 ∧ (f2 = 0 ∧ m_at < a2 ∧ a2 ≤ m_taped ∧ 0 ≤ n2 ∧ n2 + 2 * d2 ≤ 2 * a2 ∧ 0 ≤ s2 ∧ s2 ≤ a2 ∧ 0 ≤ r2 ∧ r2 ≤ 12 * a2 ∧ 0 ≤ d2 ∧ d2 ≤ 30 ∧ 0 ≤ nu2 ∧ nu2 ≤ 9 ∧ -2147483648 ≤ fl2 ∧ fl2 ≤ 2147483647 ∧ -2147483648 ≤ v2 ∧ v2 ≤ 2147483647) ∧ (rgs MK2 1200 0 1) ∧ (rgs RL2 24000 0 1114111) ∧ (rgs RH2 24000 0 1114111) ∧ (rgs NS2 120 0 255) ∧ (rgs NM2 10 0 12)) ∨ (∃ a2 : Int, ∃ v2 : Int, ∃ nt2 : Int, ∃ w2 : Int, ∃ g2 : Int, ∃ s2 : Int, ∃ r2 : Int, ∃ n2 : Int, ∃ fl2 : Int, ∃ nu2 : Int, ∃ d2 : Int, ∃ le2 : Int, ∃ mo2 : Int, ∃ f2 : Int, ∃ p2 : Int, ∃ LO2 : Int → Int, ∃ HI2 : Int → Int, ∃ MK2 : Int → Int, ∃ RL2 : Int → Int, ∃ RH2 : Int → Int, ∃ NS2 : Int → Int, ∃ NM2 : Int → Int, oc = .returned none ∧ fx o o [280, 287, 288, 293, 291, 292, 310, 311, 294, 295, 296, 297, 298, 299, 300, 301, 290, 289, 305, 306, 307, 308, 309, 302, 303, 304] G G2 ∧ G2.length = G.length ∧ ab_slots G2 = ab_slots G ∧ cc o G2 80 280 (ab_ob 12 (mof m_thrown m_taped m_length m_out w2 g2 s2 r2 n2 a2 fl2 f2 p2 nu2 d2 v2 nt2 le2 mo2 m_slot m_work m_got m_rowMany m_charAt m_charWide m_trail m_isMatch m_matchGroups m_allFrom m_allBefore m_founds m_pieces m_writtenMany m_templateWide m_tooMuch)) ∧ cc o G2 87 287 (za 9000 LO2) ∧ cc o G2 88 288 (za 9000 HI2) ∧ cc o G2 93 293 (zb 1200 MK2) ∧ cc o G2 91 291 (za 24000 RL2) ∧ cc o G2 92 292 (za 24000 RH2) ∧ cc o G2 110 310 (za 120 NS2) ∧ cc o G2 111 311 (za 10 NM2) ∧ trI o G2 0 n2 s2 (d2 + 1) (-1) 0 0 ∧ (1 ≤ f2 ∧ f2 ≤ 14 ∧ 0 ≤ a2 ∧ a2 ≤ 4000 ∧ 0 ≤ n2 ∧ n2 ≤ 4200 ∧ 0 ≤ s2 ∧ s2 ≤ 2100 ∧ 0 ≤ r2 ∧ r2 ≤ 24000 ∧ 0 ≤ d2 ∧ d2 ≤ 30 ∧ 0 ≤ nu2 ∧ nu2 ≤ 9 ∧ -2147483648 ≤ fl2 ∧ fl2 ≤ 2147483647 ∧ -2147483648 ≤ v2 ∧ v2 ≤ 2147483647) ∧ (rgs MK2 1200 0 1) ∧ (rgs RL2 24000 0 1114111) ∧ (rgs RH2 24000 0 1114111) ∧ (rgs NS2 120 0 255) ∧ (rgs NM2 10 0 12))) := by
  refine ab_F_of (by decide +kernel) (Nat.le_of_ble_eq_true rfl) ?_
  obtain ⟨Q, hQ⟩ : ∃ z : Outcome → ab_G → Prop, z = (fun oc G2 => (∃ a2 : Int, ∃ v2 : Int, ∃ nt2 : Int, ∃ w2 : Int, ∃ g2 : Int, ∃ s2 : Int, ∃ r2 : Int, ∃ n2 : Int, ∃ fl2 : Int, ∃ nu2 : Int, ∃ d2 : Int, ∃ le2 : Int, ∃ mo2 : Int, ∃ f2 : Int, ∃ p2 : Int, ∃ LO2 : Int → Int, ∃ HI2 : Int → Int, ∃ MK2 : Int → Int, ∃ RL2 : Int → Int, ∃ RH2 : Int → Int, ∃ NS2 : Int → Int, ∃ NM2 : Int → Int, oc = .returned none ∧ fx o o [280, 287, 288, 293, 291, 292, 310, 311, 294, 295, 296, 297, 298, 299, 300, 301, 290, 289, 305, 306, 307, 308, 309, 302, 303, 304] G G2 ∧ G2.length = G.length ∧ ab_slots G2 = ab_slots G ∧ cc o G2 80 280 (ab_ob 12 (mof m_thrown m_taped m_length m_out w2 g2 s2 r2 n2 a2 fl2 f2 p2 nu2 d2 v2 nt2 le2 mo2 m_slot m_work m_got m_rowMany m_charAt m_charWide m_trail m_isMatch m_matchGroups m_allFrom m_allBefore m_founds m_pieces m_writtenMany m_templateWide m_tooMuch)) ∧ cc o G2 87 287 (za 9000 LO2) ∧ cc o G2 88 288 (za 9000 HI2) ∧ cc o G2 93 293 (zb 1200 MK2) ∧ cc o G2 91 291 (za 24000 RL2) ∧ cc o G2 92 292 (za 24000 RH2) ∧ cc o G2 110 310 (za 120 NS2) ∧ cc o G2 111 311 (za 10 NM2) ∧ trI o G2 0 n2 s2 (d2 + 1) (-1) 0 0 ∧ (f2 = 0 ∧ m_at < a2 ∧ a2 ≤ m_taped ∧ 0 ≤ n2 ∧ n2 + 2 * d2 ≤ 2 * a2 ∧ 0 ≤ s2 ∧ s2 ≤ a2 ∧ 0 ≤ r2 ∧ r2 ≤ 12 * a2 ∧ 0 ≤ d2 ∧ d2 ≤ 30 ∧ 0 ≤ nu2 ∧ nu2 ≤ 9 ∧ -2147483648 ≤ fl2 ∧ fl2 ≤ 2147483647 ∧ -2147483648 ≤ v2 ∧ v2 ≤ 2147483647) ∧ (rgs MK2 1200 0 1) ∧ (rgs RL2 24000 0 1114111) ∧ (rgs RH2 24000 0 1114111) ∧ (rgs NS2 120 0 255) ∧ (rgs NM2 10 0 12)) ∨ (∃ a2 : Int, ∃ v2 : Int, ∃ nt2 : Int, ∃ w2 : Int, ∃ g2 : Int, ∃ s2 : Int, ∃ r2 : Int, ∃ n2 : Int, ∃ fl2 : Int, ∃ nu2 : Int, ∃ d2 : Int, ∃ le2 : Int, ∃ mo2 : Int, ∃ f2 : Int, ∃ p2 : Int, ∃ LO2 : Int → Int, ∃ HI2 : Int → Int, ∃ MK2 : Int → Int, ∃ RL2 : Int → Int, ∃ RH2 : Int → Int, ∃ NS2 : Int → Int, ∃ NM2 : Int → Int, oc = .returned none ∧ fx o o [280, 287, 288, 293, 291, 292, 310, 311, 294, 295, 296, 297, 298, 299, 300, 301, 290, 289, 305, 306, 307, 308, 309, 302, 303, 304] G G2 ∧ G2.length = G.length ∧ ab_slots G2 = ab_slots G ∧ cc o G2 80 280 (ab_ob 12 (mof m_thrown m_taped m_length m_out w2 g2 s2 r2 n2 a2 fl2 f2 p2 nu2 d2 v2 nt2 le2 mo2 m_slot m_work m_got m_rowMany m_charAt m_charWide m_trail m_isMatch m_matchGroups m_allFrom m_allBefore m_founds m_pieces m_writtenMany m_templateWide m_tooMuch)) ∧ cc o G2 87 287 (za 9000 LO2) ∧ cc o G2 88 288 (za 9000 HI2) ∧ cc o G2 93 293 (zb 1200 MK2) ∧ cc o G2 91 291 (za 24000 RL2) ∧ cc o G2 92 292 (za 24000 RH2) ∧ cc o G2 110 310 (za 120 NS2) ∧ cc o G2 111 311 (za 10 NM2) ∧ trI o G2 0 n2 s2 (d2 + 1) (-1) 0 0 ∧ (1 ≤ f2 ∧ f2 ≤ 14 ∧ 0 ≤ a2 ∧ a2 ≤ 4000 ∧ 0 ≤ n2 ∧ n2 ≤ 4200 ∧ 0 ≤ s2 ∧ s2 ≤ 2100 ∧ 0 ≤ r2 ∧ r2 ≤ 24000 ∧ 0 ≤ d2 ∧ d2 ≤ 30 ∧ 0 ≤ nu2 ∧ nu2 ≤ 9 ∧ -2147483648 ≤ fl2 ∧ fl2 ≤ 2147483647 ∧ -2147483648 ≤ v2 ∧ v2 ≤ 2147483647) ∧ (rgs MK2 1200 0 1) ∧ (rgs RL2 24000 0 1114111) ∧ (rgs RH2 24000 0 1114111) ∧ (rgs NS2 120 0 255) ∧ (rgs NM2 10 0 12))) := ⟨_, rfl⟩
  rw [← hQ]
  change ab_W X (ab_pl y_MO_readPart b_MO_readPart 4 none) d G 0 [some (vR 80), none, none, none] [] Q
  have hfr : fx o o [280, 287, 288, 293, 291, 292, 310, 311, 294, 295, 296, 297, 298, 299, 300, 301, 290, 289, 305, 306, 307, 308, 309, 302, 303, 304] G G := fx.rf
  have hlen : G.length = G.length := rfl
  have hsl : ab_slots G = ab_slots G := rfl
  refine ab_aload_n d_MO_readPart_0 rfl ?_
  refine zz_iconst d_MO_readPart_1 ?_
  refine ab_callV (d' := d - 1) (as := [vz 0]) (st := []) (r := _) (z_MO_here (o := o) (m_thrown := m_thrown) (m_taped := m_taped) (m_length := m_length) (m_out := m_out) (m_wide := m_wide) (m_gathered := m_gathered) (m_sets := m_sets) (m_ranges := m_ranges) (m_nodes := m_nodes) (m_at := m_at) (m_flags := m_flags) (m_fault := m_fault) (m_place := m_place) (m_numbered := m_numbered) (m_depth := m_depth) (m_value := m_value) (m_isNot := m_isNot) (m_least0 := m_least0) (m_most0 := m_most0) (m_slot := m_slot) (m_work := m_work) (m_got := m_got) (m_rowMany := m_rowMany) (m_charAt := m_charAt) (m_charWide := m_charWide) (m_trail := m_trail) (m_isMatch := m_isMatch) (m_matchGroups := m_matchGroups) (m_allFrom := m_allFrom) (m_allBefore := m_allBefore) (m_founds := m_founds) (m_pieces := m_pieces) (m_writtenMany := m_writtenMany) (m_templateWide := m_templateWide) (m_tooMuch := m_tooMuch) (A_tape := A_tape) (k := 0) h80 h84 (by omega) (by omega) jtp (by omega)) (fun oc G2 h => by rcases h with ⟨h, _⟩ | ⟨h, _⟩ <;> exact ⟨_, h⟩) (by omega) m_MO_here ml_MO_297 im_MO_here se_MO_here c_MO h80.2.2 (Nat.le_of_ble_eq_true rfl) d_MO_readPart_2 rfl ?_
  intro v G1 hq
  rcases hq with ⟨hv, hGe, hq2⟩ | ⟨hv, hGe, hq3⟩
  · cases hv
    rw [hGe]
    change ab_W _ _ _ G 5 [some (vR 80), none, none, none] [vz (A_tape (m_at + 0))] _
    refine ab_istore_n d_MO_readPart_5 (Nat.le_of_ble_eq_true rfl) (Nat.le_of_ble_eq_true rfl) rfl ?_
    change ab_W _ _ _ G 6 [some (vR 80), some (vz (A_tape (m_at + 0))), none, none] [] _
    refine ab_iload_n d_MO_readPart_6 rfl ?_
    by_cases c4 : (A_tape (m_at + 0)) = 36
    · refine zz_lookup (off := 186) (tgt := 193) d_MO_readPart_7 (by decide) (by omega) (by rw [c4]; decide) (by decide) ?_
      obtain ⟨K, O, Fi, Be, Le, Mo, Z, LZ, SM, SA, QF, QL, AF, AL, SD, OA, OF, ON, h94, h95, h96, h97, h98, h99, h100, h101, h90, h89, h105, h106, h107, h108, h109, h102, h103, h104, jk, jo, jfi, jbe, jle, jmo, jz, jlz, jsm, jsa, jqf, jql, jaf, jal, jsd, joa, jof, jon, jt, cnd, cre, crs, crz, ck5, ck6, jss⟩ := ptrI_0
      refine ab_aload_n d_MO_readPart_193 rfl ?_
      refine ab_aload_n d_MO_readPart_194 rfl ?_
      refine zz_iconst d_MO_readPart_195 ?_
      refine ab_aload_n d_MO_readPart_196 rfl ?_
      refine zz_iconst d_MO_readPart_197 ?_
      refine ab_callV (d' := d - 1) (as := [vz 2]) (st := [vz 3, vR 80, vR 80]) (r := _) (z_MO_has (o := o) (m_thrown := m_thrown) (m_taped := m_taped) (m_length := m_length) (m_out := m_out) (m_wide := m_wide) (m_gathered := m_gathered) (m_sets := m_sets) (m_ranges := m_ranges) (m_nodes := m_nodes) (m_at := m_at) (m_flags := m_flags) (m_fault := m_fault) (m_place := m_place) (m_numbered := m_numbered) (m_depth := m_depth) (m_value := m_value) (m_isNot := m_isNot) (m_least0 := m_least0) (m_most0 := m_most0) (m_slot := m_slot) (m_work := m_work) (m_got := m_got) (m_rowMany := m_rowMany) (m_charAt := m_charAt) (m_charWide := m_charWide) (m_trail := m_trail) (m_isMatch := m_isMatch) (m_matchGroups := m_matchGroups) (m_allFrom := m_allFrom) (m_allBefore := m_allBefore) (m_founds := m_founds) (m_pieces := m_pieces) (m_writtenMany := m_writtenMany) (m_templateWide := m_templateWide) (m_tooMuch := m_tooMuch) (x := 2) h80) (fun oc G2 h => by rcases h with ⟨_, h, _⟩ <;> exact ⟨_, h⟩) (by omega) m_MO_has ml_MO_355 im_MO_has se_MO_has c_MO h80.2.2 (Nat.le_of_ble_eq_true rfl) d_MO_readPart_198 rfl ?_
      intro v G5 hq
      rcases hq with ⟨v6, hv, hGe, hq7⟩
      cases hv
      rw [hGe]
      change ab_W _ _ _ G 201 [some (vR 80), some (vz (A_tape (m_at + 0))), none, none] [vz v6, vz 3, vR 80, vR 80] _
      refine zz_if_eq (tgt := 208) d_MO_readPart_201 (by decide) (by omega) (fun c8 => ?_) (fun c8 => ?_)
      · refine zz_iconst d_MO_readPart_208 ?_
        refine zz_lconst d_MO_readPart_209 ?_
        change ab_W _ _ _ G 210 [some (vR 80), some (vz (A_tape (m_at + 0))), none, none] [vj 1, vz 1, vz 3, vR 80, vR 80] _
        refine ab_callV (d' := d - 1) (as := [vz 3, vz 1, vj 1]) (st := [vR 80]) (r := _) (z_MO_node (o := o) (m_thrown := m_thrown) (m_taped := m_taped) (m_length := m_length) (m_out := m_out) (m_wide := m_wide) (m_gathered := m_gathered) (m_sets := m_sets) (m_ranges := m_ranges) (m_nodes := m_nodes) (m_at := m_at) (m_flags := m_flags) (m_fault := m_fault) (m_place := m_place) (m_numbered := m_numbered) (m_depth := m_depth) (m_value := m_value) (m_isNot := m_isNot) (m_least0 := m_least0) (m_most0 := m_most0) (m_slot := m_slot) (m_work := m_work) (m_got := m_got) (m_rowMany := m_rowMany) (m_charAt := m_charAt) (m_charWide := m_charWide) (m_trail := m_trail) (m_isMatch := m_isMatch) (m_matchGroups := m_matchGroups) (m_allFrom := m_allFrom) (m_allBefore := m_allBefore) (m_founds := m_founds) (m_pieces := m_pieces) (m_writtenMany := m_writtenMany) (m_templateWide := m_templateWide) (m_tooMuch := m_tooMuch) (K := K) (O := O) (Fi := Fi) (Be := Be) (Z := Z) (k := 3) (w := 1) (zs := 1) h80 h94 h95 h96 h97 h100 (by omega) (by omega)) (fun oc G2 h => by rcases h with ⟨h, _⟩ <;> exact ⟨_, h⟩) (by omega) m_MO_node ml_MO_269 im_MO_node se_MO_node c_MO h80.2.2 (Nat.le_of_ble_eq_true rfl) d_MO_readPart_210 rfl ?_
        intro v G9 hq
        rcases hq with ⟨hv, hfk, hlk, hsk, hN80, hN94, hN95, hN96, hN97, hN100⟩
        cases hv
        have h84 := hfk.get h84 (by decide)
        have h87 := hfk.get h87 (by decide)
        have h88 := hfk.get h88 (by decide)
        have h93 := hfk.get h93 (by decide)
        have h81 := hfk.get h81 (by decide)
        have h82 := hfk.get h82 (by decide)
        have h91 := hfk.get h91 (by decide)
        have h92 := hfk.get h92 (by decide)
        have h110 := hfk.get h110 (by decide)
        have h111 := hfk.get h111 (by decide)
        have h98 := hfk.get h98 (by decide)
        have h99 := hfk.get h99 (by decide)
        have h101 := hfk.get h101 (by decide)
        have h90 := hfk.get h90 (by decide)
        have h89 := hfk.get h89 (by decide)
        have h105 := hfk.get h105 (by decide)
        have h106 := hfk.get h106 (by decide)
        have h107 := hfk.get h107 (by decide)
        have h108 := hfk.get h108 (by decide)
        have h109 := hfk.get h109 (by decide)
        have h102 := hfk.get h102 (by decide)
        have h103 := hfk.get h103 (by decide)
        have h104 := hfk.get h104 (by decide)
        have hfr := hfr.tr hfk (by decide)
        have hlen := hlk.trans hlen
        have hsl := hsk.trans hsl
        have h80 := hN80
        have h94 := hN94
        have h95 := hN95
        have h96 := hN96
        have h97 := hN97
        have h100 := hN100
        change ab_W _ _ _ G9 213 [some (vR 80), some (vz (A_tape (m_at + 0))), none, none] [vz m_nodes, vR 80] _
        have ptrI_0 : trI o G9 0 (m_nodes + 1) m_sets (m_depth + 1) m_nodes 0 6 := ⟨(zu K m_nodes 3), (zu O m_nodes 1), (zu Fi m_nodes (-1)), (zu Be m_nodes (-1)), Le, Mo, (zu Z m_nodes 1), LZ, SM, SA, QF, QL, AF, AL, SD, OA, OF, ON, h94, h95, h96, h97, h98, h99, h100, h101, h90, h89, h105, h106, h107, h108, h109, h102, h103, h104, (rgs_zu jk (by omega)), (rgs_zu jo (by omega)), (rgs_zu jfi (by omega)), (rgs_zu jbe (by omega)), jle, jmo, (rgs_zu jz (by omega)), jlz, jsm, jsa, jqf, jql, jaf, jal, jsd, joa, jof, jon, (rtr_leaf jt (by omega) (Or.inr (Or.inr (Or.inr ⟨rfl, rfl, by omega, by omega⟩)))), (by omega), (fun h => absurd h (by decide)), (fun h => absurd h (by decide)), (fun h => absurd h (by decide)), (fun h => absurd h (by decide)), (fun _ => by rw [zu_self]; decide), jss⟩
        refine zz_iconst d_MO_readPart_213 ?_
        refine ab_callV (d' := d - 1) (as := [vz m_nodes, vz 1]) (st := []) (r := _) (z_MO_part (o := o) (m_thrown := m_thrown) (m_taped := m_taped) (m_length := m_length) (m_out := m_out) (m_wide := m_wide) (m_gathered := m_gathered) (m_sets := m_sets) (m_ranges := m_ranges) (m_nodes := (m_nodes + 1)) (m_at := m_at) (m_flags := m_flags) (m_fault := m_fault) (m_place := m_place) (m_numbered := m_numbered) (m_depth := m_depth) (m_value := m_value) (m_isNot := m_isNot) (m_least0 := m_least0) (m_most0 := m_most0) (m_slot := m_slot) (m_work := m_work) (m_got := m_got) (m_rowMany := m_rowMany) (m_charAt := m_charAt) (m_charWide := m_charWide) (m_trail := m_trail) (m_isMatch := m_isMatch) (m_matchGroups := m_matchGroups) (m_allFrom := m_allFrom) (m_allBefore := m_allBefore) (m_founds := m_founds) (m_pieces := m_pieces) (m_writtenMany := m_writtenMany) (m_templateWide := m_templateWide) (m_tooMuch := m_tooMuch) (x := m_nodes) (s := 1) (dh := 0) h80 ptrI_0 (by omega) (by omega) (by omega) (by omega)) (fun oc G2 h => by rcases h with ⟨h, _⟩ <;> exact ⟨_, h⟩) (by omega) m_MO_part ml_MO_375 im_MO_part se_MO_part c_MO h80.2.2 (Nat.le_of_ble_eq_true rfl) d_MO_readPart_214 rfl ?_
        intro v G10 hq
        rcases hq with ⟨hv, hfk, hlk, hsk, pNtrI_0⟩
        cases hv
        have h80 := hfk.get h80 (by decide)
        have h84 := hfk.get h84 (by decide)
        have h87 := hfk.get h87 (by decide)
        have h88 := hfk.get h88 (by decide)
        have h93 := hfk.get h93 (by decide)
        have h81 := hfk.get h81 (by decide)
        have h82 := hfk.get h82 (by decide)
        have h91 := hfk.get h91 (by decide)
        have h92 := hfk.get h92 (by decide)
        have h110 := hfk.get h110 (by decide)
        have h111 := hfk.get h111 (by decide)
        have ptrI_0 := pNtrI_0
        have hfr := hfr.tr hfk (by decide)
        have hlen := hlk.trans hlen
        have hsl := hsk.trans hsl
        change ab_W _ _ _ G10 217 [some (vR 80), some (vz (A_tape (m_at + 0))), none, none] [] _
        refine ab_aload_n d_MO_readPart_217 rfl ?_
        refine ab_dup d_MO_readPart_218 rfl ?_
        refine ab_getf (fs := mof m_thrown m_taped m_length m_out m_wide m_gathered m_sets m_ranges (m_nodes + 1) m_at m_flags m_fault m_place m_numbered m_depth m_value m_isNot m_least0 m_most0 m_slot m_work m_got m_rowMany m_charAt m_charWide m_trail m_isMatch m_matchGroups m_allFrom m_allBefore m_founds m_pieces m_writtenMany m_templateWide m_tooMuch) f_MO_279 d_MO_readPart_219 h80.2.2 rfl ?_
        refine zz_iconst d_MO_readPart_222 ?_
        refine zz_iadd d_MO_readPart_223 ?_
        refine ab_putf (fs := mof m_thrown m_taped m_length m_out m_wide m_gathered m_sets m_ranges (m_nodes + 1) m_at m_flags m_fault m_place m_numbered m_depth m_value m_isNot m_least0 m_most0 m_slot m_work m_got m_rowMany m_charAt m_charWide m_trail m_isMatch m_matchGroups m_allFrom m_allBefore m_founds m_pieces m_writtenMany m_templateWide m_tooMuch) f_MO_279 (Or.inl rfl) d_MO_readPart_224 h80.2.2 (Nat.le_of_ble_eq_true rfl) (fun _ => ⟨rfl, rfl⟩) (h80.2.1 (by decide)) ?_
        obtain ⟨G11, eG11⟩ : ∃ z : ab_G, z = List.set G10 80 (ab_ob 12 (mof m_thrown m_taped m_length m_out m_wide m_gathered m_sets m_ranges (m_nodes + 1) (m_at + 1) m_flags m_fault m_place m_numbered m_depth m_value m_isNot m_least0 m_most0 m_slot m_work m_got m_rowMany m_charAt m_charWide m_trail m_isMatch m_matchGroups m_allFrom m_allBefore m_founds m_pieces m_writtenMany m_templateWide m_tooMuch)) := ⟨_, rfl⟩
        have h84 := h84.keep h80 eG11 (by decide)
        have h87 := h87.keep h80 eG11 (by decide)
        have h88 := h88.keep h80 eG11 (by decide)
        have h93 := h93.keep h80 eG11 (by decide)
        have h81 := h81.keep h80 eG11 (by decide)
        have h82 := h82.keep h80 eG11 (by decide)
        have h91 := h91.keep h80 eG11 (by decide)
        have h92 := h92.keep h80 eG11 (by decide)
        have h110 := h110.keep h80 eG11 (by decide)
        have h111 := h111.keep h80 eG11 (by decide)
        have hst := (fx.rf (o := o) (S := [280]) (G := G10)).wr h80 eG11 (List.mem_singleton.mpr rfl)
        have ptrI_0 := trI.fr hst ptrI_0 (by decide) (by decide) (by decide) (by decide) (by decide) (by decide) (by decide) (by decide) (by decide) (by decide) (by decide) (by decide) (by decide) (by decide) (by decide) (by decide) (by decide) (by decide)
        have hlen := (z_len eG11).trans hlen
        have hsl := (z_sl h80 eG11 rfl).trans hsl
        have hfr := hfr.wr h80 eG11 (by decide)
        have h80 := h80.kept eG11
        change ab_W _ _ _ (List.set G10 80 (ab_ob 12 (mof m_thrown m_taped m_length m_out m_wide m_gathered m_sets m_ranges (m_nodes + 1) (m_at + 1) m_flags m_fault m_place m_numbered m_depth m_value m_isNot m_least0 m_most0 m_slot m_work m_got m_rowMany m_charAt m_charWide m_trail m_isMatch m_matchGroups m_allFrom m_allBefore m_founds m_pieces m_writtenMany m_templateWide m_tooMuch))) 227 [some (vR 80), some (vz (A_tape (m_at + 0))), none, none] [] _
        rw [← eG11]
        refine ab_goto (tgt := 312) d_MO_readPart_227 (by decide) ?_
        refine ab_vret rfl d_MO_readPart_312 ?_
        rw [hQ]; exact (Or.inl ⟨_, _, _, _, _, _, _, _, _, _, _, _, _, _, _, _, _, _, _, _, _, _, rfl, hfr, hlen, hsl, h80, h87, h88, h93, h91, h92, h110, h111, ptrI_0, (by omega), (by first | exact jmk | exact rgs_w jmk (by omega)), (by first | exact jrl | exact rgs_w jrl (by omega)), (by first | exact jrh | exact rgs_w jrh (by omega)), (by first | exact jns | exact rgs_w jns (by omega)), (by first | exact jnm | exact rgs_w jnm (by omega))⟩)
      · replace c8 : nzq v6 0 := c8
        refine zz_iconst d_MO_readPart_204 ?_
        refine ab_goto (tgt := 209) d_MO_readPart_205 (by decide) ?_
        refine zz_lconst d_MO_readPart_209 ?_
        change ab_W _ _ _ G 210 [some (vR 80), some (vz (A_tape (m_at + 0))), none, none] [vj 1, vz 5, vz 3, vR 80, vR 80] _
        refine ab_callV (d' := d - 1) (as := [vz 3, vz 5, vj 1]) (st := [vR 80]) (r := _) (z_MO_node (o := o) (m_thrown := m_thrown) (m_taped := m_taped) (m_length := m_length) (m_out := m_out) (m_wide := m_wide) (m_gathered := m_gathered) (m_sets := m_sets) (m_ranges := m_ranges) (m_nodes := m_nodes) (m_at := m_at) (m_flags := m_flags) (m_fault := m_fault) (m_place := m_place) (m_numbered := m_numbered) (m_depth := m_depth) (m_value := m_value) (m_isNot := m_isNot) (m_least0 := m_least0) (m_most0 := m_most0) (m_slot := m_slot) (m_work := m_work) (m_got := m_got) (m_rowMany := m_rowMany) (m_charAt := m_charAt) (m_charWide := m_charWide) (m_trail := m_trail) (m_isMatch := m_isMatch) (m_matchGroups := m_matchGroups) (m_allFrom := m_allFrom) (m_allBefore := m_allBefore) (m_founds := m_founds) (m_pieces := m_pieces) (m_writtenMany := m_writtenMany) (m_templateWide := m_templateWide) (m_tooMuch := m_tooMuch) (K := K) (O := O) (Fi := Fi) (Be := Be) (Z := Z) (k := 3) (w := 5) (zs := 1) h80 h94 h95 h96 h97 h100 (by omega) (by omega)) (fun oc G2 h => by rcases h with ⟨h, _⟩ <;> exact ⟨_, h⟩) (by omega) m_MO_node ml_MO_269 im_MO_node se_MO_node c_MO h80.2.2 (Nat.le_of_ble_eq_true rfl) d_MO_readPart_210 rfl ?_
        intro v G12 hq
        rcases hq with ⟨hv, hfk, hlk, hsk, hN80, hN94, hN95, hN96, hN97, hN100⟩
        cases hv
        have h84 := hfk.get h84 (by decide)
        have h87 := hfk.get h87 (by decide)
        have h88 := hfk.get h88 (by decide)
        have h93 := hfk.get h93 (by decide)
        have h81 := hfk.get h81 (by decide)
        have h82 := hfk.get h82 (by decide)
        have h91 := hfk.get h91 (by decide)
        have h92 := hfk.get h92 (by decide)
        have h110 := hfk.get h110 (by decide)
        have h111 := hfk.get h111 (by decide)
        have h98 := hfk.get h98 (by decide)
        have h99 := hfk.get h99 (by decide)
        have h101 := hfk.get h101 (by decide)
        have h90 := hfk.get h90 (by decide)
        have h89 := hfk.get h89 (by decide)
        have h105 := hfk.get h105 (by decide)
        have h106 := hfk.get h106 (by decide)
        have h107 := hfk.get h107 (by decide)
        have h108 := hfk.get h108 (by decide)
        have h109 := hfk.get h109 (by decide)
        have h102 := hfk.get h102 (by decide)
        have h103 := hfk.get h103 (by decide)
        have h104 := hfk.get h104 (by decide)
        have hfr := hfr.tr hfk (by decide)
        have hlen := hlk.trans hlen
        have hsl := hsk.trans hsl
        have h80 := hN80
        have h94 := hN94
        have h95 := hN95
        have h96 := hN96
        have h97 := hN97
        have h100 := hN100
        change ab_W _ _ _ G12 213 [some (vR 80), some (vz (A_tape (m_at + 0))), none, none] [vz m_nodes, vR 80] _
        have ptrI_0 : trI o G12 0 (m_nodes + 1) m_sets (m_depth + 1) m_nodes 0 6 := ⟨(zu K m_nodes 3), (zu O m_nodes 5), (zu Fi m_nodes (-1)), (zu Be m_nodes (-1)), Le, Mo, (zu Z m_nodes 1), LZ, SM, SA, QF, QL, AF, AL, SD, OA, OF, ON, h94, h95, h96, h97, h98, h99, h100, h101, h90, h89, h105, h106, h107, h108, h109, h102, h103, h104, (rgs_zu jk (by omega)), (rgs_zu jo (by omega)), (rgs_zu jfi (by omega)), (rgs_zu jbe (by omega)), jle, jmo, (rgs_zu jz (by omega)), jlz, jsm, jsa, jqf, jql, jaf, jal, jsd, joa, jof, jon, (rtr_leaf jt (by omega) (Or.inr (Or.inr (Or.inr ⟨rfl, rfl, by omega, by omega⟩)))), (by omega), (fun h => absurd h (by decide)), (fun h => absurd h (by decide)), (fun h => absurd h (by decide)), (fun h => absurd h (by decide)), (fun _ => by rw [zu_self]; decide), jss⟩
        refine zz_iconst d_MO_readPart_213 ?_
        refine ab_callV (d' := d - 1) (as := [vz m_nodes, vz 1]) (st := []) (r := _) (z_MO_part (o := o) (m_thrown := m_thrown) (m_taped := m_taped) (m_length := m_length) (m_out := m_out) (m_wide := m_wide) (m_gathered := m_gathered) (m_sets := m_sets) (m_ranges := m_ranges) (m_nodes := (m_nodes + 1)) (m_at := m_at) (m_flags := m_flags) (m_fault := m_fault) (m_place := m_place) (m_numbered := m_numbered) (m_depth := m_depth) (m_value := m_value) (m_isNot := m_isNot) (m_least0 := m_least0) (m_most0 := m_most0) (m_slot := m_slot) (m_work := m_work) (m_got := m_got) (m_rowMany := m_rowMany) (m_charAt := m_charAt) (m_charWide := m_charWide) (m_trail := m_trail) (m_isMatch := m_isMatch) (m_matchGroups := m_matchGroups) (m_allFrom := m_allFrom) (m_allBefore := m_allBefore) (m_founds := m_founds) (m_pieces := m_pieces) (m_writtenMany := m_writtenMany) (m_templateWide := m_templateWide) (m_tooMuch := m_tooMuch) (x := m_nodes) (s := 1) (dh := 0) h80 ptrI_0 (by omega) (by omega) (by omega) (by omega)) (fun oc G2 h => by rcases h with ⟨h, _⟩ <;> exact ⟨_, h⟩) (by omega) m_MO_part ml_MO_375 im_MO_part se_MO_part c_MO h80.2.2 (Nat.le_of_ble_eq_true rfl) d_MO_readPart_214 rfl ?_
        intro v G13 hq
        rcases hq with ⟨hv, hfk, hlk, hsk, pNtrI_0⟩
        cases hv
        have h80 := hfk.get h80 (by decide)
        have h84 := hfk.get h84 (by decide)
        have h87 := hfk.get h87 (by decide)
        have h88 := hfk.get h88 (by decide)
        have h93 := hfk.get h93 (by decide)
        have h81 := hfk.get h81 (by decide)
        have h82 := hfk.get h82 (by decide)
        have h91 := hfk.get h91 (by decide)
        have h92 := hfk.get h92 (by decide)
        have h110 := hfk.get h110 (by decide)
        have h111 := hfk.get h111 (by decide)
        have ptrI_0 := pNtrI_0
        have hfr := hfr.tr hfk (by decide)
        have hlen := hlk.trans hlen
        have hsl := hsk.trans hsl
        change ab_W _ _ _ G13 217 [some (vR 80), some (vz (A_tape (m_at + 0))), none, none] [] _
        refine ab_aload_n d_MO_readPart_217 rfl ?_
        refine ab_dup d_MO_readPart_218 rfl ?_
        refine ab_getf (fs := mof m_thrown m_taped m_length m_out m_wide m_gathered m_sets m_ranges (m_nodes + 1) m_at m_flags m_fault m_place m_numbered m_depth m_value m_isNot m_least0 m_most0 m_slot m_work m_got m_rowMany m_charAt m_charWide m_trail m_isMatch m_matchGroups m_allFrom m_allBefore m_founds m_pieces m_writtenMany m_templateWide m_tooMuch) f_MO_279 d_MO_readPart_219 h80.2.2 rfl ?_
        refine zz_iconst d_MO_readPart_222 ?_
        refine zz_iadd d_MO_readPart_223 ?_
        refine ab_putf (fs := mof m_thrown m_taped m_length m_out m_wide m_gathered m_sets m_ranges (m_nodes + 1) m_at m_flags m_fault m_place m_numbered m_depth m_value m_isNot m_least0 m_most0 m_slot m_work m_got m_rowMany m_charAt m_charWide m_trail m_isMatch m_matchGroups m_allFrom m_allBefore m_founds m_pieces m_writtenMany m_templateWide m_tooMuch) f_MO_279 (Or.inl rfl) d_MO_readPart_224 h80.2.2 (Nat.le_of_ble_eq_true rfl) (fun _ => ⟨rfl, rfl⟩) (h80.2.1 (by decide)) ?_
        obtain ⟨G14, eG14⟩ : ∃ z : ab_G, z = List.set G13 80 (ab_ob 12 (mof m_thrown m_taped m_length m_out m_wide m_gathered m_sets m_ranges (m_nodes + 1) (m_at + 1) m_flags m_fault m_place m_numbered m_depth m_value m_isNot m_least0 m_most0 m_slot m_work m_got m_rowMany m_charAt m_charWide m_trail m_isMatch m_matchGroups m_allFrom m_allBefore m_founds m_pieces m_writtenMany m_templateWide m_tooMuch)) := ⟨_, rfl⟩
        have h84 := h84.keep h80 eG14 (by decide)
        have h87 := h87.keep h80 eG14 (by decide)
        have h88 := h88.keep h80 eG14 (by decide)
        have h93 := h93.keep h80 eG14 (by decide)
        have h81 := h81.keep h80 eG14 (by decide)
        have h82 := h82.keep h80 eG14 (by decide)
        have h91 := h91.keep h80 eG14 (by decide)
        have h92 := h92.keep h80 eG14 (by decide)
        have h110 := h110.keep h80 eG14 (by decide)
        have h111 := h111.keep h80 eG14 (by decide)
        have hst := (fx.rf (o := o) (S := [280]) (G := G13)).wr h80 eG14 (List.mem_singleton.mpr rfl)
        have ptrI_0 := trI.fr hst ptrI_0 (by decide) (by decide) (by decide) (by decide) (by decide) (by decide) (by decide) (by decide) (by decide) (by decide) (by decide) (by decide) (by decide) (by decide) (by decide) (by decide) (by decide) (by decide)
        have hlen := (z_len eG14).trans hlen
        have hsl := (z_sl h80 eG14 rfl).trans hsl
        have hfr := hfr.wr h80 eG14 (by decide)
        have h80 := h80.kept eG14
        change ab_W _ _ _ (List.set G13 80 (ab_ob 12 (mof m_thrown m_taped m_length m_out m_wide m_gathered m_sets m_ranges (m_nodes + 1) (m_at + 1) m_flags m_fault m_place m_numbered m_depth m_value m_isNot m_least0 m_most0 m_slot m_work m_got m_rowMany m_charAt m_charWide m_trail m_isMatch m_matchGroups m_allFrom m_allBefore m_founds m_pieces m_writtenMany m_templateWide m_tooMuch))) 227 [some (vR 80), some (vz (A_tape (m_at + 0))), none, none] [] _
        rw [← eG14]
        refine ab_goto (tgt := 312) d_MO_readPart_227 (by decide) ?_
        refine ab_vret rfl d_MO_readPart_312 ?_
        rw [hQ]; exact (Or.inl ⟨_, _, _, _, _, _, _, _, _, _, _, _, _, _, _, _, _, _, _, _, _, _, rfl, hfr, hlen, hsl, h80, h87, h88, h93, h91, h92, h110, h111, ptrI_0, (by omega), (by first | exact jmk | exact rgs_w jmk (by omega)), (by first | exact jrl | exact rgs_w jrl (by omega)), (by first | exact jrh | exact rgs_w jrh (by omega)), (by first | exact jns | exact rgs_w jns (by omega)), (by first | exact jnm | exact rgs_w jnm (by omega))⟩)
    replace c4 : nzq (A_tape (m_at + 0)) 36 := c4
    by_cases c15 : (A_tape (m_at + 0)) = 40
    · refine zz_lookup (off := 118) (tgt := 125) d_MO_readPart_7 (by decide) (by omega) (by rw [c15]; decide) (by decide) ?_
      refine ab_aload_n d_MO_readPart_125 rfl ?_
      refine ab_callV (d' := d - 1) (as := []) (st := []) (r := _) (z_MO_readGroup (o := o) (m_thrown := m_thrown) (m_taped := m_taped) (m_length := m_length) (m_out := m_out) (m_wide := m_wide) (m_gathered := m_gathered) (m_sets := m_sets) (m_ranges := m_ranges) (m_nodes := m_nodes) (m_at := m_at) (m_flags := m_flags) (m_fault := m_fault) (m_place := m_place) (m_numbered := m_numbered) (m_depth := m_depth) (m_value := m_value) (m_isNot := m_isNot) (m_least0 := m_least0) (m_most0 := m_most0) (m_slot := m_slot) (m_work := m_work) (m_got := m_got) (m_rowMany := m_rowMany) (m_charAt := m_charAt) (m_charWide := m_charWide) (m_trail := m_trail) (m_isMatch := m_isMatch) (m_matchGroups := m_matchGroups) (m_allFrom := m_allFrom) (m_allBefore := m_allBefore) (m_founds := m_founds) (m_pieces := m_pieces) (m_writtenMany := m_writtenMany) (m_templateWide := m_templateWide) (m_tooMuch := m_tooMuch) (A_tape := A_tape) (LO := LO) (HI := HI) (MK := MK) (RL := RL) (RH := RH) (NS := NS) (NM := NM) h80 h84 h87 h88 h93 h81 h82 h91 h92 h110 h111 ptrI_0 (by omega) (by omega) jtp jmk jrl jrh jns jnm (by omega) (by omega) (by omega) (by omega)) (fun oc G2 h => by rcases h with ⟨_, _, _, _, _, _, _, _, _, _, _, _, _, _, _, _, _, _, _, _, _, _, h, _⟩ | ⟨_, _, _, _, _, _, _, _, _, _, _, _, _, _, _, _, _, _, _, _, _, _, h, _⟩ <;> exact ⟨_, h⟩) (by omega) m_MO_readGroup ml_MO_421 im_MO_readGroup se_MO_readGroup c_MO h80.2.2 (Nat.le_of_ble_eq_true rfl) d_MO_readPart_126 rfl ?_
      intro v G16 hq
      rcases hq with ⟨a217, v218, nt219, w220, g221, s222, r223, n224, fl225, nu226, d227, le228, mo229, f230, p231, LO232, HI233, MK234, RL235, RH236, NS237, NM238, hv, hfk, hlk, hsk, hN80, hN87, hN88, hN93, hN91, hN92, hN110, hN111, pNtrI_0, hq39, hq40, hq41, hq42, hq43, hq44⟩ | ⟨a245, v246, nt247, w248, g249, s250, r251, n252, fl253, nu254, d255, le256, mo257, f258, p259, LO260, HI261, MK262, RL263, RH264, NS265, NM266, hv, hfk, hlk, hsk, hN80, hN87, hN88, hN93, hN91, hN92, hN110, hN111, pNtrI_0, hq67, hq68, hq69, hq70, hq71, hq72⟩
      · cases hv
        have h84 := hfk.get h84 (by decide)
        have h81 := hfk.get h81 (by decide)
        have h82 := hfk.get h82 (by decide)
        have ptrI_0 := pNtrI_0
        have hfr := hfr.tr hfk (by decide)
        have hlen := hlk.trans hlen
        have hsl := hsk.trans hsl
        have h80 := hN80
        have h87 := hN87
        have h88 := hN88
        have h93 := hN93
        have h91 := hN91
        have h92 := hN92
        have h110 := hN110
        have h111 := hN111
        change ab_W _ _ _ G16 129 [some (vR 80), some (vz (A_tape (m_at + 0))), none, none] [] _
        refine ab_goto (tgt := 312) d_MO_readPart_129 (by decide) ?_
        refine ab_vret rfl d_MO_readPart_312 ?_
        rw [hQ]; exact (Or.inl ⟨_, _, _, _, _, _, _, _, _, _, _, _, _, _, _, _, _, _, _, _, _, _, rfl, hfr, hlen, hsl, h80, h87, h88, h93, h91, h92, h110, h111, ptrI_0, (by omega), (by first | exact hq40 | exact rgs_w hq40 (by omega)), (by first | exact hq41 | exact rgs_w hq41 (by omega)), (by first | exact hq42 | exact rgs_w hq42 (by omega)), (by first | exact hq43 | exact rgs_w hq43 (by omega)), (by first | exact hq44 | exact rgs_w hq44 (by omega))⟩)
      · cases hv
        have h84 := hfk.get h84 (by decide)
        have h81 := hfk.get h81 (by decide)
        have h82 := hfk.get h82 (by decide)
        have ptrI_0 := pNtrI_0
        have hfr := hfr.tr hfk (by decide)
        have hlen := hlk.trans hlen
        have hsl := hsk.trans hsl
        have h80 := hN80
        have h87 := hN87
        have h88 := hN88
        have h93 := hN93
        have h91 := hN91
        have h92 := hN92
        have h110 := hN110
        have h111 := hN111
        change ab_W _ _ _ G16 129 [some (vR 80), some (vz (A_tape (m_at + 0))), none, none] [] _
        refine ab_goto (tgt := 312) d_MO_readPart_129 (by decide) ?_
        refine ab_vret rfl d_MO_readPart_312 ?_
        rw [hQ]; exact (Or.inr ⟨_, _, _, _, _, _, _, _, _, _, _, _, _, _, _, _, _, _, _, _, _, _, rfl, hfr, hlen, hsl, h80, h87, h88, h93, h91, h92, h110, h111, ptrI_0, (by omega), (by first | exact hq68 | exact rgs_w hq68 (by omega)), (by first | exact hq69 | exact rgs_w hq69 (by omega)), (by first | exact hq70 | exact rgs_w hq70 (by omega)), (by first | exact hq71 | exact rgs_w hq71 (by omega)), (by first | exact hq72 | exact rgs_w hq72 (by omega))⟩)
    replace c15 : nzq (A_tape (m_at + 0)) 40 := c15
    by_cases c73 : (A_tape (m_at + 0)) = 41
    · refine zz_lookup (off := 125) (tgt := 132) d_MO_readPart_7 (by decide) (by omega) (by rw [c73]; decide) (by decide) ?_
      refine ab_aload_n d_MO_readPart_132 rfl ?_
      refine ab_callV (d' := d - 1) (as := []) (st := []) (r := _) (z_MO_closeGroup (o := o) (m_thrown := m_thrown) (m_taped := m_taped) (m_length := m_length) (m_out := m_out) (m_wide := m_wide) (m_gathered := m_gathered) (m_sets := m_sets) (m_ranges := m_ranges) (m_nodes := m_nodes) (m_at := m_at) (m_flags := m_flags) (m_fault := m_fault) (m_place := m_place) (m_numbered := m_numbered) (m_depth := m_depth) (m_value := m_value) (m_isNot := m_isNot) (m_least0 := m_least0) (m_most0 := m_most0) (m_slot := m_slot) (m_work := m_work) (m_got := m_got) (m_rowMany := m_rowMany) (m_charAt := m_charAt) (m_charWide := m_charWide) (m_trail := m_trail) (m_isMatch := m_isMatch) (m_matchGroups := m_matchGroups) (m_allFrom := m_allFrom) (m_allBefore := m_allBefore) (m_founds := m_founds) (m_pieces := m_pieces) (m_writtenMany := m_writtenMany) (m_templateWide := m_templateWide) (m_tooMuch := m_tooMuch) (A_tape := A_tape) (LO := LO) (HI := HI) (MK := MK) (RL := RL) (RH := RH) (NS := NS) (NM := NM) h80 h84 h87 h88 h93 h81 h82 h91 h92 h110 h111 ptrI_0 (by omega) (by omega) jtp jmk jrl jrh jns jnm (by omega) (by omega) (by omega) (by omega)) (fun oc G2 h => by rcases h with ⟨_, _, _, _, _, _, _, _, _, _, _, _, _, _, _, _, _, _, _, _, _, _, h, _⟩ | ⟨_, _, _, _, _, _, _, _, _, _, _, _, _, _, _, _, _, _, _, _, _, _, h, _⟩ <;> exact ⟨_, h⟩) (by omega) m_MO_closeGroup ml_MO_424 im_MO_closeGroup se_MO_closeGroup c_MO h80.2.2 (Nat.le_of_ble_eq_true rfl) d_MO_readPart_133 rfl ?_
      intro v G74 hq
      rcases hq with ⟨a275, v276, nt277, w278, g279, s280, r281, n282, fl283, nu284, d285, le286, mo287, f288, p289, LO290, HI291, MK292, RL293, RH294, NS295, NM296, hv, hfk, hlk, hsk, hN80, hN87, hN88, hN93, hN91, hN92, hN110, hN111, pNtrI_0, hq97, hq98, hq99, hq100, hq101, hq102⟩ | ⟨a2103, v2104, nt2105, w2106, g2107, s2108, r2109, n2110, fl2111, nu2112, d2113, le2114, mo2115, f2116, p2117, LO2118, HI2119, MK2120, RL2121, RH2122, NS2123, NM2124, hv, hfk, hlk, hsk, hN80, hN87, hN88, hN93, hN91, hN92, hN110, hN111, pNtrI_0, hq125, hq126, hq127, hq128, hq129, hq130⟩
      · cases hv
        have h84 := hfk.get h84 (by decide)
        have h81 := hfk.get h81 (by decide)
        have h82 := hfk.get h82 (by decide)
        have ptrI_0 := pNtrI_0
        have hfr := hfr.tr hfk (by decide)
        have hlen := hlk.trans hlen
        have hsl := hsk.trans hsl
        have h80 := hN80
        have h87 := hN87
        have h88 := hN88
        have h93 := hN93
        have h91 := hN91
        have h92 := hN92
        have h110 := hN110
        have h111 := hN111
        change ab_W _ _ _ G74 136 [some (vR 80), some (vz (A_tape (m_at + 0))), none, none] [] _
        refine ab_goto (tgt := 312) d_MO_readPart_136 (by decide) ?_
        refine ab_vret rfl d_MO_readPart_312 ?_
        rw [hQ]; exact (Or.inl ⟨_, _, _, _, _, _, _, _, _, _, _, _, _, _, _, _, _, _, _, _, _, _, rfl, hfr, hlen, hsl, h80, h87, h88, h93, h91, h92, h110, h111, ptrI_0, (by omega), (by first | exact hq98 | exact rgs_w hq98 (by omega)), (by first | exact hq99 | exact rgs_w hq99 (by omega)), (by first | exact hq100 | exact rgs_w hq100 (by omega)), (by first | exact hq101 | exact rgs_w hq101 (by omega)), (by first | exact hq102 | exact rgs_w hq102 (by omega))⟩)
      · cases hv
        have h84 := hfk.get h84 (by decide)
        have h81 := hfk.get h81 (by decide)
        have h82 := hfk.get h82 (by decide)
        have ptrI_0 := pNtrI_0
        have hfr := hfr.tr hfk (by decide)
        have hlen := hlk.trans hlen
        have hsl := hsk.trans hsl
        have h80 := hN80
        have h87 := hN87
        have h88 := hN88
        have h93 := hN93
        have h91 := hN91
        have h92 := hN92
        have h110 := hN110
        have h111 := hN111
        change ab_W _ _ _ G74 136 [some (vR 80), some (vz (A_tape (m_at + 0))), none, none] [] _
        refine ab_goto (tgt := 312) d_MO_readPart_136 (by decide) ?_
        refine ab_vret rfl d_MO_readPart_312 ?_
        rw [hQ]; exact (Or.inr ⟨_, _, _, _, _, _, _, _, _, _, _, _, _, _, _, _, _, _, _, _, _, _, rfl, hfr, hlen, hsl, h80, h87, h88, h93, h91, h92, h110, h111, ptrI_0, (by omega), (by first | exact hq126 | exact rgs_w hq126 (by omega)), (by first | exact hq127 | exact rgs_w hq127 (by omega)), (by first | exact hq128 | exact rgs_w hq128 (by omega)), (by first | exact hq129 | exact rgs_w hq129 (by omega)), (by first | exact hq130 | exact rgs_w hq130 (by omega))⟩)
    replace c73 : nzq (A_tape (m_at + 0)) 41 := c73
    by_cases c131 : (A_tape (m_at + 0)) = 42
    · refine zz_lookup (off := 223) (tgt := 230) d_MO_readPart_7 (by decide) (by omega) (by rw [c131]; decide) (by decide) ?_
      refine ab_aload_n d_MO_readPart_230 rfl ?_
      refine ab_iload_n d_MO_readPart_231 rfl ?_
      refine zz_bipush d_MO_readPart_232 (by decide) ?_
      refine zz_icmp_ne (tgt := 241) d_MO_readPart_234 (by decide) (by omega) (by decide) (fun c132 => ?_) (fun c132 => absurd c132 (by omega))
      refine zz_iconst d_MO_readPart_241 ?_
      refine ab_putf (fs := mof m_thrown m_taped m_length m_out m_wide m_gathered m_sets m_ranges m_nodes m_at m_flags m_fault m_place m_numbered m_depth m_value m_isNot m_least0 m_most0 m_slot m_work m_got m_rowMany m_charAt m_charWide m_trail m_isMatch m_matchGroups m_allFrom m_allBefore m_founds m_pieces m_writtenMany m_templateWide m_tooMuch) f_MO_403 (Or.inl rfl) d_MO_readPart_242 h80.2.2 (Nat.le_of_ble_eq_true rfl) (fun _ => ⟨rfl, rfl⟩) (h80.2.1 (by decide)) ?_
      obtain ⟨G133, eG133⟩ : ∃ z : ab_G, z = List.set G 80 (ab_ob 12 (mof m_thrown m_taped m_length m_out m_wide m_gathered m_sets m_ranges m_nodes m_at m_flags m_fault m_place m_numbered m_depth m_value m_isNot 0 m_most0 m_slot m_work m_got m_rowMany m_charAt m_charWide m_trail m_isMatch m_matchGroups m_allFrom m_allBefore m_founds m_pieces m_writtenMany m_templateWide m_tooMuch)) := ⟨_, rfl⟩
      have h84 := h84.keep h80 eG133 (by decide)
      have h87 := h87.keep h80 eG133 (by decide)
      have h88 := h88.keep h80 eG133 (by decide)
      have h93 := h93.keep h80 eG133 (by decide)
      have h81 := h81.keep h80 eG133 (by decide)
      have h82 := h82.keep h80 eG133 (by decide)
      have h91 := h91.keep h80 eG133 (by decide)
      have h92 := h92.keep h80 eG133 (by decide)
      have h110 := h110.keep h80 eG133 (by decide)
      have h111 := h111.keep h80 eG133 (by decide)
      have hst := (fx.rf (o := o) (S := [280]) (G := G)).wr h80 eG133 (List.mem_singleton.mpr rfl)
      have ptrI_0 := trI.fr hst ptrI_0 (by decide) (by decide) (by decide) (by decide) (by decide) (by decide) (by decide) (by decide) (by decide) (by decide) (by decide) (by decide) (by decide) (by decide) (by decide) (by decide) (by decide) (by decide)
      have hlen := (z_len eG133).trans hlen
      have hsl := (z_sl h80 eG133 rfl).trans hsl
      have hfr := hfr.wr h80 eG133 (by decide)
      have h80 := h80.kept eG133
      change ab_W _ _ _ (List.set G 80 (ab_ob 12 (mof m_thrown m_taped m_length m_out m_wide m_gathered m_sets m_ranges m_nodes m_at m_flags m_fault m_place m_numbered m_depth m_value m_isNot 0 m_most0 m_slot m_work m_got m_rowMany m_charAt m_charWide m_trail m_isMatch m_matchGroups m_allFrom m_allBefore m_founds m_pieces m_writtenMany m_templateWide m_tooMuch))) 245 [some (vR 80), some (vz (A_tape (m_at + 0))), none, none] [] _
      rw [← eG133]
      refine ab_aload_n d_MO_readPart_245 rfl ?_
      refine ab_iload_n d_MO_readPart_246 rfl ?_
      refine zz_bipush d_MO_readPart_247 (by decide) ?_
      refine zz_icmp_ne (tgt := 256) d_MO_readPart_249 (by decide) (by omega) (by decide) (fun c134 => ?_) (fun c134 => absurd c134 (by omega))
      refine zz_iconst d_MO_readPart_256 ?_
      refine ab_putf (fs := mof m_thrown m_taped m_length m_out m_wide m_gathered m_sets m_ranges m_nodes m_at m_flags m_fault m_place m_numbered m_depth m_value m_isNot 0 m_most0 m_slot m_work m_got m_rowMany m_charAt m_charWide m_trail m_isMatch m_matchGroups m_allFrom m_allBefore m_founds m_pieces m_writtenMany m_templateWide m_tooMuch) f_MO_406 (Or.inl rfl) d_MO_readPart_257 h80.2.2 (Nat.le_of_ble_eq_true rfl) (fun _ => ⟨rfl, rfl⟩) (h80.2.1 (by decide)) ?_
      obtain ⟨G135, eG135⟩ : ∃ z : ab_G, z = List.set G133 80 (ab_ob 12 (mof m_thrown m_taped m_length m_out m_wide m_gathered m_sets m_ranges m_nodes m_at m_flags m_fault m_place m_numbered m_depth m_value m_isNot 0 (-1) m_slot m_work m_got m_rowMany m_charAt m_charWide m_trail m_isMatch m_matchGroups m_allFrom m_allBefore m_founds m_pieces m_writtenMany m_templateWide m_tooMuch)) := ⟨_, rfl⟩
      have h84 := h84.keep h80 eG135 (by decide)
      have h87 := h87.keep h80 eG135 (by decide)
      have h88 := h88.keep h80 eG135 (by decide)
      have h93 := h93.keep h80 eG135 (by decide)
      have h81 := h81.keep h80 eG135 (by decide)
      have h82 := h82.keep h80 eG135 (by decide)
      have h91 := h91.keep h80 eG135 (by decide)
      have h92 := h92.keep h80 eG135 (by decide)
      have h110 := h110.keep h80 eG135 (by decide)
      have h111 := h111.keep h80 eG135 (by decide)
      have hst := (fx.rf (o := o) (S := [280]) (G := G133)).wr h80 eG135 (List.mem_singleton.mpr rfl)
      have ptrI_0 := trI.fr hst ptrI_0 (by decide) (by decide) (by decide) (by decide) (by decide) (by decide) (by decide) (by decide) (by decide) (by decide) (by decide) (by decide) (by decide) (by decide) (by decide) (by decide) (by decide) (by decide)
      have hlen := (z_len eG135).trans hlen
      have hsl := (z_sl h80 eG135 rfl).trans hsl
      have hfr := hfr.wr h80 eG135 (by decide)
      have h80 := h80.kept eG135
      change ab_W _ _ _ (List.set G133 80 (ab_ob 12 (mof m_thrown m_taped m_length m_out m_wide m_gathered m_sets m_ranges m_nodes m_at m_flags m_fault m_place m_numbered m_depth m_value m_isNot 0 (-1) m_slot m_work m_got m_rowMany m_charAt m_charWide m_trail m_isMatch m_matchGroups m_allFrom m_allBefore m_founds m_pieces m_writtenMany m_templateWide m_tooMuch))) 260 [some (vR 80), some (vz (A_tape (m_at + 0))), none, none] [] _
      rw [← eG135]
      refine ab_aload_n d_MO_readPart_260 rfl ?_
      refine zz_iconst d_MO_readPart_261 ?_
      refine ab_callV (d' := d - 1) (as := [vz 1]) (st := []) (r := _) (z_MO_readRepeat (o := o) (m_thrown := m_thrown) (m_taped := m_taped) (m_length := m_length) (m_out := m_out) (m_wide := m_wide) (m_gathered := m_gathered) (m_sets := m_sets) (m_ranges := m_ranges) (m_nodes := m_nodes) (m_at := m_at) (m_flags := m_flags) (m_fault := m_fault) (m_place := m_place) (m_numbered := m_numbered) (m_depth := m_depth) (m_value := m_value) (m_isNot := m_isNot) (m_least0 := 0) (m_most0 := (-1)) (m_slot := m_slot) (m_work := m_work) (m_got := m_got) (m_rowMany := m_rowMany) (m_charAt := m_charAt) (m_charWide := m_charWide) (m_trail := m_trail) (m_isMatch := m_isMatch) (m_matchGroups := m_matchGroups) (m_allFrom := m_allFrom) (m_allBefore := m_allBefore) (m_founds := m_founds) (m_pieces := m_pieces) (m_writtenMany := m_writtenMany) (m_templateWide := m_templateWide) (m_tooMuch := m_tooMuch) (A_tape := A_tape) (LO := LO) (HI := HI) (MK := MK) (RL := RL) (RH := RH) (NS := NS) (NM := NM) (be := 1) h80 h84 h87 h88 h93 h81 h82 h91 h92 h110 h111 ptrI_0 (by omega) (by omega) jtp jmk jrl jrh jns jnm (by omega) (by omega) (by omega) (by omega) (by omega)) (fun oc G2 h => by rcases h with ⟨_, _, _, _, _, _, _, _, _, _, _, _, _, _, _, _, _, _, _, _, _, _, h, _⟩ | ⟨_, _, _, _, _, _, _, _, _, _, _, _, _, _, _, _, _, _, _, _, _, _, h, _⟩ <;> exact ⟨_, h⟩) (by omega) m_MO_readRepeat ml_MO_427 im_MO_readRepeat se_MO_readRepeat c_MO h80.2.2 (Nat.le_of_ble_eq_true rfl) d_MO_readPart_262 rfl ?_
      intro v G136 hq
      rcases hq with ⟨a2137, v2138, nt2139, w2140, g2141, s2142, r2143, n2144, fl2145, nu2146, d2147, le2148, mo2149, f2150, p2151, LO2152, HI2153, MK2154, RL2155, RH2156, NS2157, NM2158, hv, hfk, hlk, hsk, hN80, hN87, hN88, hN93, hN91, hN92, hN110, hN111, pNtrI_0, hq159, hq160, hq161, hq162, hq163, hq164⟩ | ⟨a2165, v2166, nt2167, w2168, g2169, s2170, r2171, n2172, fl2173, nu2174, d2175, le2176, mo2177, f2178, p2179, LO2180, HI2181, MK2182, RL2183, RH2184, NS2185, NM2186, hv, hfk, hlk, hsk, hN80, hN87, hN88, hN93, hN91, hN92, hN110, hN111, pNtrI_0, hq187, hq188, hq189, hq190, hq191, hq192⟩
      · cases hv
        have h84 := hfk.get h84 (by decide)
        have h81 := hfk.get h81 (by decide)
        have h82 := hfk.get h82 (by decide)
        have ptrI_0 := pNtrI_0
        have hfr := hfr.tr hfk (by decide)
        have hlen := hlk.trans hlen
        have hsl := hsk.trans hsl
        have h80 := hN80
        have h87 := hN87
        have h88 := hN88
        have h93 := hN93
        have h91 := hN91
        have h92 := hN92
        have h110 := hN110
        have h111 := hN111
        change ab_W _ _ _ G136 265 [some (vR 80), some (vz (A_tape (m_at + 0))), none, none] [] _
        refine ab_goto (tgt := 312) d_MO_readPart_265 (by decide) ?_
        refine ab_vret rfl d_MO_readPart_312 ?_
        rw [hQ]; exact (Or.inl ⟨_, _, _, _, _, _, _, _, _, _, _, _, _, _, _, _, _, _, _, _, _, _, rfl, hfr, hlen, hsl, h80, h87, h88, h93, h91, h92, h110, h111, ptrI_0, (by omega), (by first | exact hq160 | exact rgs_w hq160 (by omega)), (by first | exact hq161 | exact rgs_w hq161 (by omega)), (by first | exact hq162 | exact rgs_w hq162 (by omega)), (by first | exact hq163 | exact rgs_w hq163 (by omega)), (by first | exact hq164 | exact rgs_w hq164 (by omega))⟩)
      · cases hv
        have h84 := hfk.get h84 (by decide)
        have h81 := hfk.get h81 (by decide)
        have h82 := hfk.get h82 (by decide)
        have ptrI_0 := pNtrI_0
        have hfr := hfr.tr hfk (by decide)
        have hlen := hlk.trans hlen
        have hsl := hsk.trans hsl
        have h80 := hN80
        have h87 := hN87
        have h88 := hN88
        have h93 := hN93
        have h91 := hN91
        have h92 := hN92
        have h110 := hN110
        have h111 := hN111
        change ab_W _ _ _ G136 265 [some (vR 80), some (vz (A_tape (m_at + 0))), none, none] [] _
        refine ab_goto (tgt := 312) d_MO_readPart_265 (by decide) ?_
        refine ab_vret rfl d_MO_readPart_312 ?_
        rw [hQ]; exact (Or.inr ⟨_, _, _, _, _, _, _, _, _, _, _, _, _, _, _, _, _, _, _, _, _, _, rfl, hfr, hlen, hsl, h80, h87, h88, h93, h91, h92, h110, h111, ptrI_0, (by omega), (by first | exact hq188 | exact rgs_w hq188 (by omega)), (by first | exact hq189 | exact rgs_w hq189 (by omega)), (by first | exact hq190 | exact rgs_w hq190 (by omega)), (by first | exact hq191 | exact rgs_w hq191 (by omega)), (by first | exact hq192 | exact rgs_w hq192 (by omega))⟩)
    replace c131 : nzq (A_tape (m_at + 0)) 42 := c131
    by_cases c193 : (A_tape (m_at + 0)) = 43
    · refine zz_lookup (off := 223) (tgt := 230) d_MO_readPart_7 (by decide) (by omega) (by rw [c193]; decide) (by decide) ?_
      refine ab_aload_n d_MO_readPart_230 rfl ?_
      refine ab_iload_n d_MO_readPart_231 rfl ?_
      refine zz_bipush d_MO_readPart_232 (by decide) ?_
      refine zz_icmp_ne (tgt := 241) d_MO_readPart_234 (by decide) (by omega) (by decide) (fun c194 => absurd c194 (by omega)) (fun c194 => ?_)
      refine zz_iconst d_MO_readPart_237 ?_
      refine ab_goto (tgt := 242) d_MO_readPart_238 (by decide) ?_
      refine ab_putf (fs := mof m_thrown m_taped m_length m_out m_wide m_gathered m_sets m_ranges m_nodes m_at m_flags m_fault m_place m_numbered m_depth m_value m_isNot m_least0 m_most0 m_slot m_work m_got m_rowMany m_charAt m_charWide m_trail m_isMatch m_matchGroups m_allFrom m_allBefore m_founds m_pieces m_writtenMany m_templateWide m_tooMuch) f_MO_403 (Or.inl rfl) d_MO_readPart_242 h80.2.2 (Nat.le_of_ble_eq_true rfl) (fun _ => ⟨rfl, rfl⟩) (h80.2.1 (by decide)) ?_
      obtain ⟨G195, eG195⟩ : ∃ z : ab_G, z = List.set G 80 (ab_ob 12 (mof m_thrown m_taped m_length m_out m_wide m_gathered m_sets m_ranges m_nodes m_at m_flags m_fault m_place m_numbered m_depth m_value m_isNot 1 m_most0 m_slot m_work m_got m_rowMany m_charAt m_charWide m_trail m_isMatch m_matchGroups m_allFrom m_allBefore m_founds m_pieces m_writtenMany m_templateWide m_tooMuch)) := ⟨_, rfl⟩
      have h84 := h84.keep h80 eG195 (by decide)
      have h87 := h87.keep h80 eG195 (by decide)
      have h88 := h88.keep h80 eG195 (by decide)
      have h93 := h93.keep h80 eG195 (by decide)
      have h81 := h81.keep h80 eG195 (by decide)
      have h82 := h82.keep h80 eG195 (by decide)
      have h91 := h91.keep h80 eG195 (by decide)
      have h92 := h92.keep h80 eG195 (by decide)
      have h110 := h110.keep h80 eG195 (by decide)
      have h111 := h111.keep h80 eG195 (by decide)
      have hst := (fx.rf (o := o) (S := [280]) (G := G)).wr h80 eG195 (List.mem_singleton.mpr rfl)
      have ptrI_0 := trI.fr hst ptrI_0 (by decide) (by decide) (by decide) (by decide) (by decide) (by decide) (by decide) (by decide) (by decide) (by decide) (by decide) (by decide) (by decide) (by decide) (by decide) (by decide) (by decide) (by decide)
      have hlen := (z_len eG195).trans hlen
      have hsl := (z_sl h80 eG195 rfl).trans hsl
      have hfr := hfr.wr h80 eG195 (by decide)
      have h80 := h80.kept eG195
      change ab_W _ _ _ (List.set G 80 (ab_ob 12 (mof m_thrown m_taped m_length m_out m_wide m_gathered m_sets m_ranges m_nodes m_at m_flags m_fault m_place m_numbered m_depth m_value m_isNot 1 m_most0 m_slot m_work m_got m_rowMany m_charAt m_charWide m_trail m_isMatch m_matchGroups m_allFrom m_allBefore m_founds m_pieces m_writtenMany m_templateWide m_tooMuch))) 245 [some (vR 80), some (vz (A_tape (m_at + 0))), none, none] [] _
      rw [← eG195]
      refine ab_aload_n d_MO_readPart_245 rfl ?_
      refine ab_iload_n d_MO_readPart_246 rfl ?_
      refine zz_bipush d_MO_readPart_247 (by decide) ?_
      refine zz_icmp_ne (tgt := 256) d_MO_readPart_249 (by decide) (by omega) (by decide) (fun c196 => ?_) (fun c196 => absurd c196 (by omega))
      refine zz_iconst d_MO_readPart_256 ?_
      refine ab_putf (fs := mof m_thrown m_taped m_length m_out m_wide m_gathered m_sets m_ranges m_nodes m_at m_flags m_fault m_place m_numbered m_depth m_value m_isNot 1 m_most0 m_slot m_work m_got m_rowMany m_charAt m_charWide m_trail m_isMatch m_matchGroups m_allFrom m_allBefore m_founds m_pieces m_writtenMany m_templateWide m_tooMuch) f_MO_406 (Or.inl rfl) d_MO_readPart_257 h80.2.2 (Nat.le_of_ble_eq_true rfl) (fun _ => ⟨rfl, rfl⟩) (h80.2.1 (by decide)) ?_
      obtain ⟨G197, eG197⟩ : ∃ z : ab_G, z = List.set G195 80 (ab_ob 12 (mof m_thrown m_taped m_length m_out m_wide m_gathered m_sets m_ranges m_nodes m_at m_flags m_fault m_place m_numbered m_depth m_value m_isNot 1 (-1) m_slot m_work m_got m_rowMany m_charAt m_charWide m_trail m_isMatch m_matchGroups m_allFrom m_allBefore m_founds m_pieces m_writtenMany m_templateWide m_tooMuch)) := ⟨_, rfl⟩
      have h84 := h84.keep h80 eG197 (by decide)
      have h87 := h87.keep h80 eG197 (by decide)
      have h88 := h88.keep h80 eG197 (by decide)
      have h93 := h93.keep h80 eG197 (by decide)
      have h81 := h81.keep h80 eG197 (by decide)
      have h82 := h82.keep h80 eG197 (by decide)
      have h91 := h91.keep h80 eG197 (by decide)
      have h92 := h92.keep h80 eG197 (by decide)
      have h110 := h110.keep h80 eG197 (by decide)
      have h111 := h111.keep h80 eG197 (by decide)
      have hst := (fx.rf (o := o) (S := [280]) (G := G195)).wr h80 eG197 (List.mem_singleton.mpr rfl)
      have ptrI_0 := trI.fr hst ptrI_0 (by decide) (by decide) (by decide) (by decide) (by decide) (by decide) (by decide) (by decide) (by decide) (by decide) (by decide) (by decide) (by decide) (by decide) (by decide) (by decide) (by decide) (by decide)
      have hlen := (z_len eG197).trans hlen
      have hsl := (z_sl h80 eG197 rfl).trans hsl
      have hfr := hfr.wr h80 eG197 (by decide)
      have h80 := h80.kept eG197
      change ab_W _ _ _ (List.set G195 80 (ab_ob 12 (mof m_thrown m_taped m_length m_out m_wide m_gathered m_sets m_ranges m_nodes m_at m_flags m_fault m_place m_numbered m_depth m_value m_isNot 1 (-1) m_slot m_work m_got m_rowMany m_charAt m_charWide m_trail m_isMatch m_matchGroups m_allFrom m_allBefore m_founds m_pieces m_writtenMany m_templateWide m_tooMuch))) 260 [some (vR 80), some (vz (A_tape (m_at + 0))), none, none] [] _
      rw [← eG197]
      refine ab_aload_n d_MO_readPart_260 rfl ?_
      refine zz_iconst d_MO_readPart_261 ?_
      refine ab_callV (d' := d - 1) (as := [vz 1]) (st := []) (r := _) (z_MO_readRepeat (o := o) (m_thrown := m_thrown) (m_taped := m_taped) (m_length := m_length) (m_out := m_out) (m_wide := m_wide) (m_gathered := m_gathered) (m_sets := m_sets) (m_ranges := m_ranges) (m_nodes := m_nodes) (m_at := m_at) (m_flags := m_flags) (m_fault := m_fault) (m_place := m_place) (m_numbered := m_numbered) (m_depth := m_depth) (m_value := m_value) (m_isNot := m_isNot) (m_least0 := 1) (m_most0 := (-1)) (m_slot := m_slot) (m_work := m_work) (m_got := m_got) (m_rowMany := m_rowMany) (m_charAt := m_charAt) (m_charWide := m_charWide) (m_trail := m_trail) (m_isMatch := m_isMatch) (m_matchGroups := m_matchGroups) (m_allFrom := m_allFrom) (m_allBefore := m_allBefore) (m_founds := m_founds) (m_pieces := m_pieces) (m_writtenMany := m_writtenMany) (m_templateWide := m_templateWide) (m_tooMuch := m_tooMuch) (A_tape := A_tape) (LO := LO) (HI := HI) (MK := MK) (RL := RL) (RH := RH) (NS := NS) (NM := NM) (be := 1) h80 h84 h87 h88 h93 h81 h82 h91 h92 h110 h111 ptrI_0 (by omega) (by omega) jtp jmk jrl jrh jns jnm (by omega) (by omega) (by omega) (by omega) (by omega)) (fun oc G2 h => by rcases h with ⟨_, _, _, _, _, _, _, _, _, _, _, _, _, _, _, _, _, _, _, _, _, _, h, _⟩ | ⟨_, _, _, _, _, _, _, _, _, _, _, _, _, _, _, _, _, _, _, _, _, _, h, _⟩ <;> exact ⟨_, h⟩) (by omega) m_MO_readRepeat ml_MO_427 im_MO_readRepeat se_MO_readRepeat c_MO h80.2.2 (Nat.le_of_ble_eq_true rfl) d_MO_readPart_262 rfl ?_
      intro v G198 hq
      rcases hq with ⟨a2199, v2200, nt2201, w2202, g2203, s2204, r2205, n2206, fl2207, nu2208, d2209, le2210, mo2211, f2212, p2213, LO2214, HI2215, MK2216, RL2217, RH2218, NS2219, NM2220, hv, hfk, hlk, hsk, hN80, hN87, hN88, hN93, hN91, hN92, hN110, hN111, pNtrI_0, hq221, hq222, hq223, hq224, hq225, hq226⟩ | ⟨a2227, v2228, nt2229, w2230, g2231, s2232, r2233, n2234, fl2235, nu2236, d2237, le2238, mo2239, f2240, p2241, LO2242, HI2243, MK2244, RL2245, RH2246, NS2247, NM2248, hv, hfk, hlk, hsk, hN80, hN87, hN88, hN93, hN91, hN92, hN110, hN111, pNtrI_0, hq249, hq250, hq251, hq252, hq253, hq254⟩
      · cases hv
        have h84 := hfk.get h84 (by decide)
        have h81 := hfk.get h81 (by decide)
        have h82 := hfk.get h82 (by decide)
        have ptrI_0 := pNtrI_0
        have hfr := hfr.tr hfk (by decide)
        have hlen := hlk.trans hlen
        have hsl := hsk.trans hsl
        have h80 := hN80
        have h87 := hN87
        have h88 := hN88
        have h93 := hN93
        have h91 := hN91
        have h92 := hN92
        have h110 := hN110
        have h111 := hN111
        change ab_W _ _ _ G198 265 [some (vR 80), some (vz (A_tape (m_at + 0))), none, none] [] _
        refine ab_goto (tgt := 312) d_MO_readPart_265 (by decide) ?_
        refine ab_vret rfl d_MO_readPart_312 ?_
        rw [hQ]; exact (Or.inl ⟨_, _, _, _, _, _, _, _, _, _, _, _, _, _, _, _, _, _, _, _, _, _, rfl, hfr, hlen, hsl, h80, h87, h88, h93, h91, h92, h110, h111, ptrI_0, (by omega), (by first | exact hq222 | exact rgs_w hq222 (by omega)), (by first | exact hq223 | exact rgs_w hq223 (by omega)), (by first | exact hq224 | exact rgs_w hq224 (by omega)), (by first | exact hq225 | exact rgs_w hq225 (by omega)), (by first | exact hq226 | exact rgs_w hq226 (by omega))⟩)
      · cases hv
        have h84 := hfk.get h84 (by decide)
        have h81 := hfk.get h81 (by decide)
        have h82 := hfk.get h82 (by decide)
        have ptrI_0 := pNtrI_0
        have hfr := hfr.tr hfk (by decide)
        have hlen := hlk.trans hlen
        have hsl := hsk.trans hsl
        have h80 := hN80
        have h87 := hN87
        have h88 := hN88
        have h93 := hN93
        have h91 := hN91
        have h92 := hN92
        have h110 := hN110
        have h111 := hN111
        change ab_W _ _ _ G198 265 [some (vR 80), some (vz (A_tape (m_at + 0))), none, none] [] _
        refine ab_goto (tgt := 312) d_MO_readPart_265 (by decide) ?_
        refine ab_vret rfl d_MO_readPart_312 ?_
        rw [hQ]; exact (Or.inr ⟨_, _, _, _, _, _, _, _, _, _, _, _, _, _, _, _, _, _, _, _, _, _, rfl, hfr, hlen, hsl, h80, h87, h88, h93, h91, h92, h110, h111, ptrI_0, (by omega), (by first | exact hq250 | exact rgs_w hq250 (by omega)), (by first | exact hq251 | exact rgs_w hq251 (by omega)), (by first | exact hq252 | exact rgs_w hq252 (by omega)), (by first | exact hq253 | exact rgs_w hq253 (by omega)), (by first | exact hq254 | exact rgs_w hq254 (by omega))⟩)
    replace c193 : nzq (A_tape (m_at + 0)) 43 := c193
    by_cases c255 : (A_tape (m_at + 0)) = 46
    · refine zz_lookup (off := 111) (tgt := 118) d_MO_readPart_7 (by decide) (by omega) (by rw [c255]; decide) (by decide) ?_
      refine ab_aload_n d_MO_readPart_118 rfl ?_
      refine ab_callV (d' := d - 1) (as := []) (st := []) (r := _) (z_MO_readDot (o := o) (m_thrown := m_thrown) (m_taped := m_taped) (m_length := m_length) (m_out := m_out) (m_wide := m_wide) (m_gathered := m_gathered) (m_sets := m_sets) (m_ranges := m_ranges) (m_nodes := m_nodes) (m_at := m_at) (m_flags := m_flags) (m_fault := m_fault) (m_place := m_place) (m_numbered := m_numbered) (m_depth := m_depth) (m_value := m_value) (m_isNot := m_isNot) (m_least0 := m_least0) (m_most0 := m_most0) (m_slot := m_slot) (m_work := m_work) (m_got := m_got) (m_rowMany := m_rowMany) (m_charAt := m_charAt) (m_charWide := m_charWide) (m_trail := m_trail) (m_isMatch := m_isMatch) (m_matchGroups := m_matchGroups) (m_allFrom := m_allFrom) (m_allBefore := m_allBefore) (m_founds := m_founds) (m_pieces := m_pieces) (m_writtenMany := m_writtenMany) (m_templateWide := m_templateWide) (m_tooMuch := m_tooMuch) (A_tape := A_tape) (LO := LO) (HI := HI) (MK := MK) (RL := RL) (RH := RH) (NS := NS) (NM := NM) h80 h84 h87 h88 h93 h81 h82 h91 h92 h110 h111 ptrI_0 (by omega) (by omega) jtp jmk jrl jrh jns jnm (by omega) (by omega) (by omega) (by omega)) (fun oc G2 h => by rcases h with ⟨_, _, _, _, _, _, _, _, _, _, _, _, _, _, _, _, _, _, _, _, _, _, h, _⟩ <;> exact ⟨_, h⟩) (by omega) m_MO_readDot ml_MO_418 im_MO_readDot se_MO_readDot c_MO h80.2.2 (Nat.le_of_ble_eq_true rfl) d_MO_readPart_119 rfl ?_
      intro v G256 hq
      rcases hq with ⟨a2257, v2258, nt2259, w2260, g2261, s2262, r2263, n2264, fl2265, nu2266, d2267, le2268, mo2269, f2270, p2271, LO2272, HI2273, MK2274, RL2275, RH2276, NS2277, NM2278, hv, hfk, hlk, hsk, hN80, hN87, hN88, hN93, hN91, hN92, hN110, hN111, pNtrI_0, hq279, hq280, hq281, hq282, hq283, hq284⟩
      cases hv
      have h84 := hfk.get h84 (by decide)
      have h81 := hfk.get h81 (by decide)
      have h82 := hfk.get h82 (by decide)
      have ptrI_0 := pNtrI_0
      have hfr := hfr.tr hfk (by decide)
      have hlen := hlk.trans hlen
      have hsl := hsk.trans hsl
      have h80 := hN80
      have h87 := hN87
      have h88 := hN88
      have h93 := hN93
      have h91 := hN91
      have h92 := hN92
      have h110 := hN110
      have h111 := hN111
      change ab_W _ _ _ G256 122 [some (vR 80), some (vz (A_tape (m_at + 0))), none, none] [] _
      refine ab_goto (tgt := 312) d_MO_readPart_122 (by decide) ?_
      refine ab_vret rfl d_MO_readPart_312 ?_
      rw [hQ]; exact (Or.inl ⟨_, _, _, _, _, _, _, _, _, _, _, _, _, _, _, _, _, _, _, _, _, _, rfl, hfr, hlen, hsl, h80, h87, h88, h93, h91, h92, h110, h111, ptrI_0, (by omega), (by first | exact hq280 | exact rgs_w hq280 (by omega)), (by first | exact hq281 | exact rgs_w hq281 (by omega)), (by first | exact hq282 | exact rgs_w hq282 (by omega)), (by first | exact hq283 | exact rgs_w hq283 (by omega)), (by first | exact hq284 | exact rgs_w hq284 (by omega))⟩)
    replace c255 : nzq (A_tape (m_at + 0)) 46 := c255
    by_cases c285 : (A_tape (m_at + 0)) = 63
    · refine zz_lookup (off := 223) (tgt := 230) d_MO_readPart_7 (by decide) (by omega) (by rw [c285]; decide) (by decide) ?_
      refine ab_aload_n d_MO_readPart_230 rfl ?_
      refine ab_iload_n d_MO_readPart_231 rfl ?_
      refine zz_bipush d_MO_readPart_232 (by decide) ?_
      refine zz_icmp_ne (tgt := 241) d_MO_readPart_234 (by decide) (by omega) (by decide) (fun c286 => ?_) (fun c286 => absurd c286 (by omega))
      refine zz_iconst d_MO_readPart_241 ?_
      refine ab_putf (fs := mof m_thrown m_taped m_length m_out m_wide m_gathered m_sets m_ranges m_nodes m_at m_flags m_fault m_place m_numbered m_depth m_value m_isNot m_least0 m_most0 m_slot m_work m_got m_rowMany m_charAt m_charWide m_trail m_isMatch m_matchGroups m_allFrom m_allBefore m_founds m_pieces m_writtenMany m_templateWide m_tooMuch) f_MO_403 (Or.inl rfl) d_MO_readPart_242 h80.2.2 (Nat.le_of_ble_eq_true rfl) (fun _ => ⟨rfl, rfl⟩) (h80.2.1 (by decide)) ?_
      obtain ⟨G287, eG287⟩ : ∃ z : ab_G, z = List.set G 80 (ab_ob 12 (mof m_thrown m_taped m_length m_out m_wide m_gathered m_sets m_ranges m_nodes m_at m_flags m_fault m_place m_numbered m_depth m_value m_isNot 0 m_most0 m_slot m_work m_got m_rowMany m_charAt m_charWide m_trail m_isMatch m_matchGroups m_allFrom m_allBefore m_founds m_pieces m_writtenMany m_templateWide m_tooMuch)) := ⟨_, rfl⟩
      have h84 := h84.keep h80 eG287 (by decide)
      have h87 := h87.keep h80 eG287 (by decide)
      have h88 := h88.keep h80 eG287 (by decide)
      have h93 := h93.keep h80 eG287 (by decide)
      have h81 := h81.keep h80 eG287 (by decide)
      have h82 := h82.keep h80 eG287 (by decide)
      have h91 := h91.keep h80 eG287 (by decide)
      have h92 := h92.keep h80 eG287 (by decide)
      have h110 := h110.keep h80 eG287 (by decide)
      have h111 := h111.keep h80 eG287 (by decide)
      have hst := (fx.rf (o := o) (S := [280]) (G := G)).wr h80 eG287 (List.mem_singleton.mpr rfl)
      have ptrI_0 := trI.fr hst ptrI_0 (by decide) (by decide) (by decide) (by decide) (by decide) (by decide) (by decide) (by decide) (by decide) (by decide) (by decide) (by decide) (by decide) (by decide) (by decide) (by decide) (by decide) (by decide)
      have hlen := (z_len eG287).trans hlen
      have hsl := (z_sl h80 eG287 rfl).trans hsl
      have hfr := hfr.wr h80 eG287 (by decide)
      have h80 := h80.kept eG287
      change ab_W _ _ _ (List.set G 80 (ab_ob 12 (mof m_thrown m_taped m_length m_out m_wide m_gathered m_sets m_ranges m_nodes m_at m_flags m_fault m_place m_numbered m_depth m_value m_isNot 0 m_most0 m_slot m_work m_got m_rowMany m_charAt m_charWide m_trail m_isMatch m_matchGroups m_allFrom m_allBefore m_founds m_pieces m_writtenMany m_templateWide m_tooMuch))) 245 [some (vR 80), some (vz (A_tape (m_at + 0))), none, none] [] _
      rw [← eG287]
      refine ab_aload_n d_MO_readPart_245 rfl ?_
      refine ab_iload_n d_MO_readPart_246 rfl ?_
      refine zz_bipush d_MO_readPart_247 (by decide) ?_
      refine zz_icmp_ne (tgt := 256) d_MO_readPart_249 (by decide) (by omega) (by decide) (fun c288 => absurd c288 (by omega)) (fun c288 => ?_)
      refine zz_iconst d_MO_readPart_252 ?_
      refine ab_goto (tgt := 257) d_MO_readPart_253 (by decide) ?_
      refine ab_putf (fs := mof m_thrown m_taped m_length m_out m_wide m_gathered m_sets m_ranges m_nodes m_at m_flags m_fault m_place m_numbered m_depth m_value m_isNot 0 m_most0 m_slot m_work m_got m_rowMany m_charAt m_charWide m_trail m_isMatch m_matchGroups m_allFrom m_allBefore m_founds m_pieces m_writtenMany m_templateWide m_tooMuch) f_MO_406 (Or.inl rfl) d_MO_readPart_257 h80.2.2 (Nat.le_of_ble_eq_true rfl) (fun _ => ⟨rfl, rfl⟩) (h80.2.1 (by decide)) ?_
      obtain ⟨G289, eG289⟩ : ∃ z : ab_G, z = List.set G287 80 (ab_ob 12 (mof m_thrown m_taped m_length m_out m_wide m_gathered m_sets m_ranges m_nodes m_at m_flags m_fault m_place m_numbered m_depth m_value m_isNot 0 1 m_slot m_work m_got m_rowMany m_charAt m_charWide m_trail m_isMatch m_matchGroups m_allFrom m_allBefore m_founds m_pieces m_writtenMany m_templateWide m_tooMuch)) := ⟨_, rfl⟩
      have h84 := h84.keep h80 eG289 (by decide)
      have h87 := h87.keep h80 eG289 (by decide)
      have h88 := h88.keep h80 eG289 (by decide)
      have h93 := h93.keep h80 eG289 (by decide)
      have h81 := h81.keep h80 eG289 (by decide)
      have h82 := h82.keep h80 eG289 (by decide)
      have h91 := h91.keep h80 eG289 (by decide)
      have h92 := h92.keep h80 eG289 (by decide)
      have h110 := h110.keep h80 eG289 (by decide)
      have h111 := h111.keep h80 eG289 (by decide)
      have hst := (fx.rf (o := o) (S := [280]) (G := G287)).wr h80 eG289 (List.mem_singleton.mpr rfl)
      have ptrI_0 := trI.fr hst ptrI_0 (by decide) (by decide) (by decide) (by decide) (by decide) (by decide) (by decide) (by decide) (by decide) (by decide) (by decide) (by decide) (by decide) (by decide) (by decide) (by decide) (by decide) (by decide)
      have hlen := (z_len eG289).trans hlen
      have hsl := (z_sl h80 eG289 rfl).trans hsl
      have hfr := hfr.wr h80 eG289 (by decide)
      have h80 := h80.kept eG289
      change ab_W _ _ _ (List.set G287 80 (ab_ob 12 (mof m_thrown m_taped m_length m_out m_wide m_gathered m_sets m_ranges m_nodes m_at m_flags m_fault m_place m_numbered m_depth m_value m_isNot 0 1 m_slot m_work m_got m_rowMany m_charAt m_charWide m_trail m_isMatch m_matchGroups m_allFrom m_allBefore m_founds m_pieces m_writtenMany m_templateWide m_tooMuch))) 260 [some (vR 80), some (vz (A_tape (m_at + 0))), none, none] [] _
      rw [← eG289]
      refine ab_aload_n d_MO_readPart_260 rfl ?_
      refine zz_iconst d_MO_readPart_261 ?_
      refine ab_callV (d' := d - 1) (as := [vz 1]) (st := []) (r := _) (z_MO_readRepeat (o := o) (m_thrown := m_thrown) (m_taped := m_taped) (m_length := m_length) (m_out := m_out) (m_wide := m_wide) (m_gathered := m_gathered) (m_sets := m_sets) (m_ranges := m_ranges) (m_nodes := m_nodes) (m_at := m_at) (m_flags := m_flags) (m_fault := m_fault) (m_place := m_place) (m_numbered := m_numbered) (m_depth := m_depth) (m_value := m_value) (m_isNot := m_isNot) (m_least0 := 0) (m_most0 := 1) (m_slot := m_slot) (m_work := m_work) (m_got := m_got) (m_rowMany := m_rowMany) (m_charAt := m_charAt) (m_charWide := m_charWide) (m_trail := m_trail) (m_isMatch := m_isMatch) (m_matchGroups := m_matchGroups) (m_allFrom := m_allFrom) (m_allBefore := m_allBefore) (m_founds := m_founds) (m_pieces := m_pieces) (m_writtenMany := m_writtenMany) (m_templateWide := m_templateWide) (m_tooMuch := m_tooMuch) (A_tape := A_tape) (LO := LO) (HI := HI) (MK := MK) (RL := RL) (RH := RH) (NS := NS) (NM := NM) (be := 1) h80 h84 h87 h88 h93 h81 h82 h91 h92 h110 h111 ptrI_0 (by omega) (by omega) jtp jmk jrl jrh jns jnm (by omega) (by omega) (by omega) (by omega) (by omega)) (fun oc G2 h => by rcases h with ⟨_, _, _, _, _, _, _, _, _, _, _, _, _, _, _, _, _, _, _, _, _, _, h, _⟩ | ⟨_, _, _, _, _, _, _, _, _, _, _, _, _, _, _, _, _, _, _, _, _, _, h, _⟩ <;> exact ⟨_, h⟩) (by omega) m_MO_readRepeat ml_MO_427 im_MO_readRepeat se_MO_readRepeat c_MO h80.2.2 (Nat.le_of_ble_eq_true rfl) d_MO_readPart_262 rfl ?_
      intro v G290 hq
      rcases hq with ⟨a2291, v2292, nt2293, w2294, g2295, s2296, r2297, n2298, fl2299, nu2300, d2301, le2302, mo2303, f2304, p2305, LO2306, HI2307, MK2308, RL2309, RH2310, NS2311, NM2312, hv, hfk, hlk, hsk, hN80, hN87, hN88, hN93, hN91, hN92, hN110, hN111, pNtrI_0, hq313, hq314, hq315, hq316, hq317, hq318⟩ | ⟨a2319, v2320, nt2321, w2322, g2323, s2324, r2325, n2326, fl2327, nu2328, d2329, le2330, mo2331, f2332, p2333, LO2334, HI2335, MK2336, RL2337, RH2338, NS2339, NM2340, hv, hfk, hlk, hsk, hN80, hN87, hN88, hN93, hN91, hN92, hN110, hN111, pNtrI_0, hq341, hq342, hq343, hq344, hq345, hq346⟩
      · cases hv
        have h84 := hfk.get h84 (by decide)
        have h81 := hfk.get h81 (by decide)
        have h82 := hfk.get h82 (by decide)
        have ptrI_0 := pNtrI_0
        have hfr := hfr.tr hfk (by decide)
        have hlen := hlk.trans hlen
        have hsl := hsk.trans hsl
        have h80 := hN80
        have h87 := hN87
        have h88 := hN88
        have h93 := hN93
        have h91 := hN91
        have h92 := hN92
        have h110 := hN110
        have h111 := hN111
        change ab_W _ _ _ G290 265 [some (vR 80), some (vz (A_tape (m_at + 0))), none, none] [] _
        refine ab_goto (tgt := 312) d_MO_readPart_265 (by decide) ?_
        refine ab_vret rfl d_MO_readPart_312 ?_
        rw [hQ]; exact (Or.inl ⟨_, _, _, _, _, _, _, _, _, _, _, _, _, _, _, _, _, _, _, _, _, _, rfl, hfr, hlen, hsl, h80, h87, h88, h93, h91, h92, h110, h111, ptrI_0, (by omega), (by first | exact hq314 | exact rgs_w hq314 (by omega)), (by first | exact hq315 | exact rgs_w hq315 (by omega)), (by first | exact hq316 | exact rgs_w hq316 (by omega)), (by first | exact hq317 | exact rgs_w hq317 (by omega)), (by first | exact hq318 | exact rgs_w hq318 (by omega))⟩)
      · cases hv
        have h84 := hfk.get h84 (by decide)
        have h81 := hfk.get h81 (by decide)
        have h82 := hfk.get h82 (by decide)
        have ptrI_0 := pNtrI_0
        have hfr := hfr.tr hfk (by decide)
        have hlen := hlk.trans hlen
        have hsl := hsk.trans hsl
        have h80 := hN80
        have h87 := hN87
        have h88 := hN88
        have h93 := hN93
        have h91 := hN91
        have h92 := hN92
        have h110 := hN110
        have h111 := hN111
        change ab_W _ _ _ G290 265 [some (vR 80), some (vz (A_tape (m_at + 0))), none, none] [] _
        refine ab_goto (tgt := 312) d_MO_readPart_265 (by decide) ?_
        refine ab_vret rfl d_MO_readPart_312 ?_
        rw [hQ]; exact (Or.inr ⟨_, _, _, _, _, _, _, _, _, _, _, _, _, _, _, _, _, _, _, _, _, _, rfl, hfr, hlen, hsl, h80, h87, h88, h93, h91, h92, h110, h111, ptrI_0, (by omega), (by first | exact hq342 | exact rgs_w hq342 (by omega)), (by first | exact hq343 | exact rgs_w hq343 (by omega)), (by first | exact hq344 | exact rgs_w hq344 (by omega)), (by first | exact hq345 | exact rgs_w hq345 (by omega)), (by first | exact hq346 | exact rgs_w hq346 (by omega))⟩)
    replace c285 : nzq (A_tape (m_at + 0)) 63 := c285
    by_cases c347 : (A_tape (m_at + 0)) = 91
    · refine zz_lookup (off := 104) (tgt := 111) d_MO_readPart_7 (by decide) (by omega) (by rw [c347]; decide) (by decide) ?_
      refine ab_aload_n d_MO_readPart_111 rfl ?_
      refine ab_callV (d' := d - 1) (as := []) (st := []) (r := _) (z_MO_readClass (o := o) (m_thrown := m_thrown) (m_taped := m_taped) (m_length := m_length) (m_out := m_out) (m_wide := m_wide) (m_gathered := m_gathered) (m_sets := m_sets) (m_ranges := m_ranges) (m_nodes := m_nodes) (m_at := m_at) (m_flags := m_flags) (m_fault := m_fault) (m_place := m_place) (m_numbered := m_numbered) (m_depth := m_depth) (m_value := m_value) (m_isNot := m_isNot) (m_least0 := m_least0) (m_most0 := m_most0) (m_slot := m_slot) (m_work := m_work) (m_got := m_got) (m_rowMany := m_rowMany) (m_charAt := m_charAt) (m_charWide := m_charWide) (m_trail := m_trail) (m_isMatch := m_isMatch) (m_matchGroups := m_matchGroups) (m_allFrom := m_allFrom) (m_allBefore := m_allBefore) (m_founds := m_founds) (m_pieces := m_pieces) (m_writtenMany := m_writtenMany) (m_templateWide := m_templateWide) (m_tooMuch := m_tooMuch) (A_tape := A_tape) (LO := LO) (HI := HI) (MK := MK) (RL := RL) (RH := RH) (NS := NS) (NM := NM) h80 h84 h87 h88 h93 h81 h82 h91 h92 h110 h111 ptrI_0 (by omega) (by omega) jtp jmk jrl jrh jns jnm (by omega) (by omega) (by omega) (by omega)) (fun oc G2 h => by rcases h with ⟨_, _, _, _, _, _, _, _, _, _, _, _, _, _, _, _, _, _, _, _, _, _, h, _⟩ | ⟨_, _, _, _, _, _, _, _, _, _, _, _, _, _, _, _, _, _, _, _, _, _, h, _⟩ <;> exact ⟨_, h⟩) (by omega) m_MO_readClass ml_MO_415 im_MO_readClass se_MO_readClass c_MO h80.2.2 (Nat.le_of_ble_eq_true rfl) d_MO_readPart_112 rfl ?_
      intro v G348 hq
      rcases hq with ⟨a2349, v2350, nt2351, w2352, g2353, s2354, r2355, n2356, fl2357, nu2358, d2359, le2360, mo2361, f2362, p2363, LO2364, HI2365, MK2366, RL2367, RH2368, NS2369, NM2370, hv, hfk, hlk, hsk, hN80, hN87, hN88, hN93, hN91, hN92, hN110, hN111, pNtrI_0, hq371, hq372, hq373, hq374, hq375, hq376⟩ | ⟨a2377, v2378, nt2379, w2380, g2381, s2382, r2383, n2384, fl2385, nu2386, d2387, le2388, mo2389, f2390, p2391, LO2392, HI2393, MK2394, RL2395, RH2396, NS2397, NM2398, hv, hfk, hlk, hsk, hN80, hN87, hN88, hN93, hN91, hN92, hN110, hN111, pNtrI_0, hq399, hq400, hq401, hq402, hq403, hq404⟩
      · cases hv
        have h84 := hfk.get h84 (by decide)
        have h81 := hfk.get h81 (by decide)
        have h82 := hfk.get h82 (by decide)
        have ptrI_0 := pNtrI_0
        have hfr := hfr.tr hfk (by decide)
        have hlen := hlk.trans hlen
        have hsl := hsk.trans hsl
        have h80 := hN80
        have h87 := hN87
        have h88 := hN88
        have h93 := hN93
        have h91 := hN91
        have h92 := hN92
        have h110 := hN110
        have h111 := hN111
        change ab_W _ _ _ G348 115 [some (vR 80), some (vz (A_tape (m_at + 0))), none, none] [] _
        refine ab_goto (tgt := 312) d_MO_readPart_115 (by decide) ?_
        refine ab_vret rfl d_MO_readPart_312 ?_
        rw [hQ]; exact (Or.inl ⟨_, _, _, _, _, _, _, _, _, _, _, _, _, _, _, _, _, _, _, _, _, _, rfl, hfr, hlen, hsl, h80, h87, h88, h93, h91, h92, h110, h111, ptrI_0, (by omega), (by first | exact hq372 | exact rgs_w hq372 (by omega)), (by first | exact hq373 | exact rgs_w hq373 (by omega)), (by first | exact hq374 | exact rgs_w hq374 (by omega)), (by first | exact hq375 | exact rgs_w hq375 (by omega)), (by first | exact hq376 | exact rgs_w hq376 (by omega))⟩)
      · cases hv
        have h84 := hfk.get h84 (by decide)
        have h81 := hfk.get h81 (by decide)
        have h82 := hfk.get h82 (by decide)
        have ptrI_0 := pNtrI_0
        have hfr := hfr.tr hfk (by decide)
        have hlen := hlk.trans hlen
        have hsl := hsk.trans hsl
        have h80 := hN80
        have h87 := hN87
        have h88 := hN88
        have h93 := hN93
        have h91 := hN91
        have h92 := hN92
        have h110 := hN110
        have h111 := hN111
        change ab_W _ _ _ G348 115 [some (vR 80), some (vz (A_tape (m_at + 0))), none, none] [] _
        refine ab_goto (tgt := 312) d_MO_readPart_115 (by decide) ?_
        refine ab_vret rfl d_MO_readPart_312 ?_
        rw [hQ]; exact (Or.inr ⟨_, _, _, _, _, _, _, _, _, _, _, _, _, _, _, _, _, _, _, _, _, _, rfl, hfr, hlen, hsl, h80, h87, h88, h93, h91, h92, h110, h111, ptrI_0, (by omega), (by first | exact hq400 | exact rgs_w hq400 (by omega)), (by first | exact hq401 | exact rgs_w hq401 (by omega)), (by first | exact hq402 | exact rgs_w hq402 (by omega)), (by first | exact hq403 | exact rgs_w hq403 (by omega)), (by first | exact hq404 | exact rgs_w hq404 (by omega))⟩)
    replace c347 : nzq (A_tape (m_at + 0)) 91 := c347
    by_cases c405 : (A_tape (m_at + 0)) = 92
    · refine zz_lookup (off := 97) (tgt := 104) d_MO_readPart_7 (by decide) (by omega) (by rw [c405]; decide) (by decide) ?_
      refine ab_aload_n d_MO_readPart_104 rfl ?_
      refine ab_callV (d' := d - 1) (as := []) (st := []) (r := _) (z_MO_readEscape (o := o) (m_thrown := m_thrown) (m_taped := m_taped) (m_length := m_length) (m_out := m_out) (m_wide := m_wide) (m_gathered := m_gathered) (m_sets := m_sets) (m_ranges := m_ranges) (m_nodes := m_nodes) (m_at := m_at) (m_flags := m_flags) (m_fault := m_fault) (m_place := m_place) (m_numbered := m_numbered) (m_depth := m_depth) (m_value := m_value) (m_isNot := m_isNot) (m_least0 := m_least0) (m_most0 := m_most0) (m_slot := m_slot) (m_work := m_work) (m_got := m_got) (m_rowMany := m_rowMany) (m_charAt := m_charAt) (m_charWide := m_charWide) (m_trail := m_trail) (m_isMatch := m_isMatch) (m_matchGroups := m_matchGroups) (m_allFrom := m_allFrom) (m_allBefore := m_allBefore) (m_founds := m_founds) (m_pieces := m_pieces) (m_writtenMany := m_writtenMany) (m_templateWide := m_templateWide) (m_tooMuch := m_tooMuch) (A_tape := A_tape) (LO := LO) (HI := HI) (MK := MK) (RL := RL) (RH := RH) (NS := NS) (NM := NM) h80 h84 h87 h88 h93 h81 h82 h91 h92 h110 h111 ptrI_0 (by omega) (by omega) jtp jmk jrl jrh jns jnm (by omega) (by omega) (by omega) (by omega)) (fun oc G2 h => by rcases h with ⟨_, _, _, _, _, _, _, _, _, _, _, _, _, _, _, _, _, _, _, _, _, _, h, _⟩ | ⟨_, _, _, _, _, _, _, _, _, _, _, _, _, _, _, _, _, _, _, _, _, _, h, _⟩ <;> exact ⟨_, h⟩) (by omega) m_MO_readEscape ml_MO_412 im_MO_readEscape se_MO_readEscape c_MO h80.2.2 (Nat.le_of_ble_eq_true rfl) d_MO_readPart_105 rfl ?_
      intro v G406 hq
      rcases hq with ⟨a2407, v2408, nt2409, w2410, g2411, s2412, r2413, n2414, fl2415, nu2416, d2417, le2418, mo2419, f2420, p2421, LO2422, HI2423, MK2424, RL2425, RH2426, NS2427, NM2428, hv, hfk, hlk, hsk, hN80, hN87, hN88, hN93, hN91, hN92, hN110, hN111, pNtrI_0, hq429, hq430, hq431, hq432, hq433, hq434⟩ | ⟨a2435, v2436, nt2437, w2438, g2439, s2440, r2441, n2442, fl2443, nu2444, d2445, le2446, mo2447, f2448, p2449, LO2450, HI2451, MK2452, RL2453, RH2454, NS2455, NM2456, hv, hfk, hlk, hsk, hN80, hN87, hN88, hN93, hN91, hN92, hN110, hN111, pNtrI_0, hq457, hq458, hq459, hq460, hq461, hq462⟩
      · cases hv
        have h84 := hfk.get h84 (by decide)
        have h81 := hfk.get h81 (by decide)
        have h82 := hfk.get h82 (by decide)
        have ptrI_0 := pNtrI_0
        have hfr := hfr.tr hfk (by decide)
        have hlen := hlk.trans hlen
        have hsl := hsk.trans hsl
        have h80 := hN80
        have h87 := hN87
        have h88 := hN88
        have h93 := hN93
        have h91 := hN91
        have h92 := hN92
        have h110 := hN110
        have h111 := hN111
        change ab_W _ _ _ G406 108 [some (vR 80), some (vz (A_tape (m_at + 0))), none, none] [] _
        refine ab_goto (tgt := 312) d_MO_readPart_108 (by decide) ?_
        refine ab_vret rfl d_MO_readPart_312 ?_
        rw [hQ]; exact (Or.inl ⟨_, _, _, _, _, _, _, _, _, _, _, _, _, _, _, _, _, _, _, _, _, _, rfl, hfr, hlen, hsl, h80, h87, h88, h93, h91, h92, h110, h111, ptrI_0, (by omega), (by first | exact hq430 | exact rgs_w hq430 (by omega)), (by first | exact hq431 | exact rgs_w hq431 (by omega)), (by first | exact hq432 | exact rgs_w hq432 (by omega)), (by first | exact hq433 | exact rgs_w hq433 (by omega)), (by first | exact hq434 | exact rgs_w hq434 (by omega))⟩)
      · cases hv
        have h84 := hfk.get h84 (by decide)
        have h81 := hfk.get h81 (by decide)
        have h82 := hfk.get h82 (by decide)
        have ptrI_0 := pNtrI_0
        have hfr := hfr.tr hfk (by decide)
        have hlen := hlk.trans hlen
        have hsl := hsk.trans hsl
        have h80 := hN80
        have h87 := hN87
        have h88 := hN88
        have h93 := hN93
        have h91 := hN91
        have h92 := hN92
        have h110 := hN110
        have h111 := hN111
        change ab_W _ _ _ G406 108 [some (vR 80), some (vz (A_tape (m_at + 0))), none, none] [] _
        refine ab_goto (tgt := 312) d_MO_readPart_108 (by decide) ?_
        refine ab_vret rfl d_MO_readPart_312 ?_
        rw [hQ]; exact (Or.inr ⟨_, _, _, _, _, _, _, _, _, _, _, _, _, _, _, _, _, _, _, _, _, _, rfl, hfr, hlen, hsl, h80, h87, h88, h93, h91, h92, h110, h111, ptrI_0, (by omega), (by first | exact hq458 | exact rgs_w hq458 (by omega)), (by first | exact hq459 | exact rgs_w hq459 (by omega)), (by first | exact hq460 | exact rgs_w hq460 (by omega)), (by first | exact hq461 | exact rgs_w hq461 (by omega)), (by first | exact hq462 | exact rgs_w hq462 (by omega))⟩)
    replace c405 : nzq (A_tape (m_at + 0)) 92 := c405
    by_cases c463 : (A_tape (m_at + 0)) = 94
    · refine zz_lookup (off := 149) (tgt := 156) d_MO_readPart_7 (by decide) (by omega) (by rw [c463]; decide) (by decide) ?_
      obtain ⟨K, O, Fi, Be, Le, Mo, Z, LZ, SM, SA, QF, QL, AF, AL, SD, OA, OF, ON, h94, h95, h96, h97, h98, h99, h100, h101, h90, h89, h105, h106, h107, h108, h109, h102, h103, h104, jk, jo, jfi, jbe, jle, jmo, jz, jlz, jsm, jsa, jqf, jql, jaf, jal, jsd, joa, jof, jon, jt, cnd, cre, crs, crz, ck5, ck6, jss⟩ := ptrI_0
      refine ab_aload_n d_MO_readPart_156 rfl ?_
      refine ab_aload_n d_MO_readPart_157 rfl ?_
      refine zz_iconst d_MO_readPart_158 ?_
      refine ab_aload_n d_MO_readPart_159 rfl ?_
      refine zz_iconst d_MO_readPart_160 ?_
      refine ab_callV (d' := d - 1) (as := [vz 2]) (st := [vz 3, vR 80, vR 80]) (r := _) (z_MO_has (o := o) (m_thrown := m_thrown) (m_taped := m_taped) (m_length := m_length) (m_out := m_out) (m_wide := m_wide) (m_gathered := m_gathered) (m_sets := m_sets) (m_ranges := m_ranges) (m_nodes := m_nodes) (m_at := m_at) (m_flags := m_flags) (m_fault := m_fault) (m_place := m_place) (m_numbered := m_numbered) (m_depth := m_depth) (m_value := m_value) (m_isNot := m_isNot) (m_least0 := m_least0) (m_most0 := m_most0) (m_slot := m_slot) (m_work := m_work) (m_got := m_got) (m_rowMany := m_rowMany) (m_charAt := m_charAt) (m_charWide := m_charWide) (m_trail := m_trail) (m_isMatch := m_isMatch) (m_matchGroups := m_matchGroups) (m_allFrom := m_allFrom) (m_allBefore := m_allBefore) (m_founds := m_founds) (m_pieces := m_pieces) (m_writtenMany := m_writtenMany) (m_templateWide := m_templateWide) (m_tooMuch := m_tooMuch) (x := 2) h80) (fun oc G2 h => by rcases h with ⟨_, h, _⟩ <;> exact ⟨_, h⟩) (by omega) m_MO_has ml_MO_355 im_MO_has se_MO_has c_MO h80.2.2 (Nat.le_of_ble_eq_true rfl) d_MO_readPart_161 rfl ?_
      intro v G464 hq
      rcases hq with ⟨v465, hv, hGe, hq466⟩
      cases hv
      rw [hGe]
      change ab_W _ _ _ G 164 [some (vR 80), some (vz (A_tape (m_at + 0))), none, none] [vz v465, vz 3, vR 80, vR 80] _
      refine zz_if_eq (tgt := 171) d_MO_readPart_164 (by decide) (by omega) (fun c467 => ?_) (fun c467 => ?_)
      · refine zz_iconst d_MO_readPart_171 ?_
        refine zz_lconst d_MO_readPart_172 ?_
        change ab_W _ _ _ G 173 [some (vR 80), some (vz (A_tape (m_at + 0))), none, none] [vj 1, vz 0, vz 3, vR 80, vR 80] _
        refine ab_callV (d' := d - 1) (as := [vz 3, vz 0, vj 1]) (st := [vR 80]) (r := _) (z_MO_node (o := o) (m_thrown := m_thrown) (m_taped := m_taped) (m_length := m_length) (m_out := m_out) (m_wide := m_wide) (m_gathered := m_gathered) (m_sets := m_sets) (m_ranges := m_ranges) (m_nodes := m_nodes) (m_at := m_at) (m_flags := m_flags) (m_fault := m_fault) (m_place := m_place) (m_numbered := m_numbered) (m_depth := m_depth) (m_value := m_value) (m_isNot := m_isNot) (m_least0 := m_least0) (m_most0 := m_most0) (m_slot := m_slot) (m_work := m_work) (m_got := m_got) (m_rowMany := m_rowMany) (m_charAt := m_charAt) (m_charWide := m_charWide) (m_trail := m_trail) (m_isMatch := m_isMatch) (m_matchGroups := m_matchGroups) (m_allFrom := m_allFrom) (m_allBefore := m_allBefore) (m_founds := m_founds) (m_pieces := m_pieces) (m_writtenMany := m_writtenMany) (m_templateWide := m_templateWide) (m_tooMuch := m_tooMuch) (K := K) (O := O) (Fi := Fi) (Be := Be) (Z := Z) (k := 3) (w := 0) (zs := 1) h80 h94 h95 h96 h97 h100 (by omega) (by omega)) (fun oc G2 h => by rcases h with ⟨h, _⟩ <;> exact ⟨_, h⟩) (by omega) m_MO_node ml_MO_269 im_MO_node se_MO_node c_MO h80.2.2 (Nat.le_of_ble_eq_true rfl) d_MO_readPart_173 rfl ?_
        intro v G468 hq
        rcases hq with ⟨hv, hfk, hlk, hsk, hN80, hN94, hN95, hN96, hN97, hN100⟩
        cases hv
        have h84 := hfk.get h84 (by decide)
        have h87 := hfk.get h87 (by decide)
        have h88 := hfk.get h88 (by decide)
        have h93 := hfk.get h93 (by decide)
        have h81 := hfk.get h81 (by decide)
        have h82 := hfk.get h82 (by decide)
        have h91 := hfk.get h91 (by decide)
        have h92 := hfk.get h92 (by decide)
        have h110 := hfk.get h110 (by decide)
        have h111 := hfk.get h111 (by decide)
        have h98 := hfk.get h98 (by decide)
        have h99 := hfk.get h99 (by decide)
        have h101 := hfk.get h101 (by decide)
        have h90 := hfk.get h90 (by decide)
        have h89 := hfk.get h89 (by decide)
        have h105 := hfk.get h105 (by decide)
        have h106 := hfk.get h106 (by decide)
        have h107 := hfk.get h107 (by decide)
        have h108 := hfk.get h108 (by decide)
        have h109 := hfk.get h109 (by decide)
        have h102 := hfk.get h102 (by decide)
        have h103 := hfk.get h103 (by decide)
        have h104 := hfk.get h104 (by decide)
        have hfr := hfr.tr hfk (by decide)
        have hlen := hlk.trans hlen
        have hsl := hsk.trans hsl
        have h80 := hN80
        have h94 := hN94
        have h95 := hN95
        have h96 := hN96
        have h97 := hN97
        have h100 := hN100
        change ab_W _ _ _ G468 176 [some (vR 80), some (vz (A_tape (m_at + 0))), none, none] [vz m_nodes, vR 80] _
        have ptrI_0 : trI o G468 0 (m_nodes + 1) m_sets (m_depth + 1) m_nodes 0 6 := ⟨(zu K m_nodes 3), (zu O m_nodes 0), (zu Fi m_nodes (-1)), (zu Be m_nodes (-1)), Le, Mo, (zu Z m_nodes 1), LZ, SM, SA, QF, QL, AF, AL, SD, OA, OF, ON, h94, h95, h96, h97, h98, h99, h100, h101, h90, h89, h105, h106, h107, h108, h109, h102, h103, h104, (rgs_zu jk (by omega)), (rgs_zu jo (by omega)), (rgs_zu jfi (by omega)), (rgs_zu jbe (by omega)), jle, jmo, (rgs_zu jz (by omega)), jlz, jsm, jsa, jqf, jql, jaf, jal, jsd, joa, jof, jon, (rtr_leaf jt (by omega) (Or.inr (Or.inr (Or.inr ⟨rfl, rfl, by omega, by omega⟩)))), (by omega), (fun h => absurd h (by decide)), (fun h => absurd h (by decide)), (fun h => absurd h (by decide)), (fun h => absurd h (by decide)), (fun _ => by rw [zu_self]; decide), jss⟩
        refine zz_iconst d_MO_readPart_176 ?_
        refine ab_callV (d' := d - 1) (as := [vz m_nodes, vz 1]) (st := []) (r := _) (z_MO_part (o := o) (m_thrown := m_thrown) (m_taped := m_taped) (m_length := m_length) (m_out := m_out) (m_wide := m_wide) (m_gathered := m_gathered) (m_sets := m_sets) (m_ranges := m_ranges) (m_nodes := (m_nodes + 1)) (m_at := m_at) (m_flags := m_flags) (m_fault := m_fault) (m_place := m_place) (m_numbered := m_numbered) (m_depth := m_depth) (m_value := m_value) (m_isNot := m_isNot) (m_least0 := m_least0) (m_most0 := m_most0) (m_slot := m_slot) (m_work := m_work) (m_got := m_got) (m_rowMany := m_rowMany) (m_charAt := m_charAt) (m_charWide := m_charWide) (m_trail := m_trail) (m_isMatch := m_isMatch) (m_matchGroups := m_matchGroups) (m_allFrom := m_allFrom) (m_allBefore := m_allBefore) (m_founds := m_founds) (m_pieces := m_pieces) (m_writtenMany := m_writtenMany) (m_templateWide := m_templateWide) (m_tooMuch := m_tooMuch) (x := m_nodes) (s := 1) (dh := 0) h80 ptrI_0 (by omega) (by omega) (by omega) (by omega)) (fun oc G2 h => by rcases h with ⟨h, _⟩ <;> exact ⟨_, h⟩) (by omega) m_MO_part ml_MO_375 im_MO_part se_MO_part c_MO h80.2.2 (Nat.le_of_ble_eq_true rfl) d_MO_readPart_177 rfl ?_
        intro v G469 hq
        rcases hq with ⟨hv, hfk, hlk, hsk, pNtrI_0⟩
        cases hv
        have h80 := hfk.get h80 (by decide)
        have h84 := hfk.get h84 (by decide)
        have h87 := hfk.get h87 (by decide)
        have h88 := hfk.get h88 (by decide)
        have h93 := hfk.get h93 (by decide)
        have h81 := hfk.get h81 (by decide)
        have h82 := hfk.get h82 (by decide)
        have h91 := hfk.get h91 (by decide)
        have h92 := hfk.get h92 (by decide)
        have h110 := hfk.get h110 (by decide)
        have h111 := hfk.get h111 (by decide)
        have ptrI_0 := pNtrI_0
        have hfr := hfr.tr hfk (by decide)
        have hlen := hlk.trans hlen
        have hsl := hsk.trans hsl
        change ab_W _ _ _ G469 180 [some (vR 80), some (vz (A_tape (m_at + 0))), none, none] [] _
        refine ab_aload_n d_MO_readPart_180 rfl ?_
        refine ab_dup d_MO_readPart_181 rfl ?_
        refine ab_getf (fs := mof m_thrown m_taped m_length m_out m_wide m_gathered m_sets m_ranges (m_nodes + 1) m_at m_flags m_fault m_place m_numbered m_depth m_value m_isNot m_least0 m_most0 m_slot m_work m_got m_rowMany m_charAt m_charWide m_trail m_isMatch m_matchGroups m_allFrom m_allBefore m_founds m_pieces m_writtenMany m_templateWide m_tooMuch) f_MO_279 d_MO_readPart_182 h80.2.2 rfl ?_
        refine zz_iconst d_MO_readPart_185 ?_
        refine zz_iadd d_MO_readPart_186 ?_
        refine ab_putf (fs := mof m_thrown m_taped m_length m_out m_wide m_gathered m_sets m_ranges (m_nodes + 1) m_at m_flags m_fault m_place m_numbered m_depth m_value m_isNot m_least0 m_most0 m_slot m_work m_got m_rowMany m_charAt m_charWide m_trail m_isMatch m_matchGroups m_allFrom m_allBefore m_founds m_pieces m_writtenMany m_templateWide m_tooMuch) f_MO_279 (Or.inl rfl) d_MO_readPart_187 h80.2.2 (Nat.le_of_ble_eq_true rfl) (fun _ => ⟨rfl, rfl⟩) (h80.2.1 (by decide)) ?_
        obtain ⟨G470, eG470⟩ : ∃ z : ab_G, z = List.set G469 80 (ab_ob 12 (mof m_thrown m_taped m_length m_out m_wide m_gathered m_sets m_ranges (m_nodes + 1) (m_at + 1) m_flags m_fault m_place m_numbered m_depth m_value m_isNot m_least0 m_most0 m_slot m_work m_got m_rowMany m_charAt m_charWide m_trail m_isMatch m_matchGroups m_allFrom m_allBefore m_founds m_pieces m_writtenMany m_templateWide m_tooMuch)) := ⟨_, rfl⟩
        have h84 := h84.keep h80 eG470 (by decide)
        have h87 := h87.keep h80 eG470 (by decide)
        have h88 := h88.keep h80 eG470 (by decide)
        have h93 := h93.keep h80 eG470 (by decide)
        have h81 := h81.keep h80 eG470 (by decide)
        have h82 := h82.keep h80 eG470 (by decide)
        have h91 := h91.keep h80 eG470 (by decide)
        have h92 := h92.keep h80 eG470 (by decide)
        have h110 := h110.keep h80 eG470 (by decide)
        have h111 := h111.keep h80 eG470 (by decide)
        have hst := (fx.rf (o := o) (S := [280]) (G := G469)).wr h80 eG470 (List.mem_singleton.mpr rfl)
        have ptrI_0 := trI.fr hst ptrI_0 (by decide) (by decide) (by decide) (by decide) (by decide) (by decide) (by decide) (by decide) (by decide) (by decide) (by decide) (by decide) (by decide) (by decide) (by decide) (by decide) (by decide) (by decide)
        have hlen := (z_len eG470).trans hlen
        have hsl := (z_sl h80 eG470 rfl).trans hsl
        have hfr := hfr.wr h80 eG470 (by decide)
        have h80 := h80.kept eG470
        change ab_W _ _ _ (List.set G469 80 (ab_ob 12 (mof m_thrown m_taped m_length m_out m_wide m_gathered m_sets m_ranges (m_nodes + 1) (m_at + 1) m_flags m_fault m_place m_numbered m_depth m_value m_isNot m_least0 m_most0 m_slot m_work m_got m_rowMany m_charAt m_charWide m_trail m_isMatch m_matchGroups m_allFrom m_allBefore m_founds m_pieces m_writtenMany m_templateWide m_tooMuch))) 190 [some (vR 80), some (vz (A_tape (m_at + 0))), none, none] [] _
        rw [← eG470]
        refine ab_goto (tgt := 312) d_MO_readPart_190 (by decide) ?_
        refine ab_vret rfl d_MO_readPart_312 ?_
        rw [hQ]; exact (Or.inl ⟨_, _, _, _, _, _, _, _, _, _, _, _, _, _, _, _, _, _, _, _, _, _, rfl, hfr, hlen, hsl, h80, h87, h88, h93, h91, h92, h110, h111, ptrI_0, (by omega), (by first | exact jmk | exact rgs_w jmk (by omega)), (by first | exact jrl | exact rgs_w jrl (by omega)), (by first | exact jrh | exact rgs_w jrh (by omega)), (by first | exact jns | exact rgs_w jns (by omega)), (by first | exact jnm | exact rgs_w jnm (by omega))⟩)
      · replace c467 : nzq v465 0 := c467
        refine zz_iconst d_MO_readPart_167 ?_
        refine ab_goto (tgt := 172) d_MO_readPart_168 (by decide) ?_
        refine zz_lconst d_MO_readPart_172 ?_
        change ab_W _ _ _ G 173 [some (vR 80), some (vz (A_tape (m_at + 0))), none, none] [vj 1, vz 4, vz 3, vR 80, vR 80] _
        refine ab_callV (d' := d - 1) (as := [vz 3, vz 4, vj 1]) (st := [vR 80]) (r := _) (z_MO_node (o := o) (m_thrown := m_thrown) (m_taped := m_taped) (m_length := m_length) (m_out := m_out) (m_wide := m_wide) (m_gathered := m_gathered) (m_sets := m_sets) (m_ranges := m_ranges) (m_nodes := m_nodes) (m_at := m_at) (m_flags := m_flags) (m_fault := m_fault) (m_place := m_place) (m_numbered := m_numbered) (m_depth := m_depth) (m_value := m_value) (m_isNot := m_isNot) (m_least0 := m_least0) (m_most0 := m_most0) (m_slot := m_slot) (m_work := m_work) (m_got := m_got) (m_rowMany := m_rowMany) (m_charAt := m_charAt) (m_charWide := m_charWide) (m_trail := m_trail) (m_isMatch := m_isMatch) (m_matchGroups := m_matchGroups) (m_allFrom := m_allFrom) (m_allBefore := m_allBefore) (m_founds := m_founds) (m_pieces := m_pieces) (m_writtenMany := m_writtenMany) (m_templateWide := m_templateWide) (m_tooMuch := m_tooMuch) (K := K) (O := O) (Fi := Fi) (Be := Be) (Z := Z) (k := 3) (w := 4) (zs := 1) h80 h94 h95 h96 h97 h100 (by omega) (by omega)) (fun oc G2 h => by rcases h with ⟨h, _⟩ <;> exact ⟨_, h⟩) (by omega) m_MO_node ml_MO_269 im_MO_node se_MO_node c_MO h80.2.2 (Nat.le_of_ble_eq_true rfl) d_MO_readPart_173 rfl ?_
        intro v G471 hq
        rcases hq with ⟨hv, hfk, hlk, hsk, hN80, hN94, hN95, hN96, hN97, hN100⟩
        cases hv
        have h84 := hfk.get h84 (by decide)
        have h87 := hfk.get h87 (by decide)
        have h88 := hfk.get h88 (by decide)
        have h93 := hfk.get h93 (by decide)
        have h81 := hfk.get h81 (by decide)
        have h82 := hfk.get h82 (by decide)
        have h91 := hfk.get h91 (by decide)
        have h92 := hfk.get h92 (by decide)
        have h110 := hfk.get h110 (by decide)
        have h111 := hfk.get h111 (by decide)
        have h98 := hfk.get h98 (by decide)
        have h99 := hfk.get h99 (by decide)
        have h101 := hfk.get h101 (by decide)
        have h90 := hfk.get h90 (by decide)
        have h89 := hfk.get h89 (by decide)
        have h105 := hfk.get h105 (by decide)
        have h106 := hfk.get h106 (by decide)
        have h107 := hfk.get h107 (by decide)
        have h108 := hfk.get h108 (by decide)
        have h109 := hfk.get h109 (by decide)
        have h102 := hfk.get h102 (by decide)
        have h103 := hfk.get h103 (by decide)
        have h104 := hfk.get h104 (by decide)
        have hfr := hfr.tr hfk (by decide)
        have hlen := hlk.trans hlen
        have hsl := hsk.trans hsl
        have h80 := hN80
        have h94 := hN94
        have h95 := hN95
        have h96 := hN96
        have h97 := hN97
        have h100 := hN100
        change ab_W _ _ _ G471 176 [some (vR 80), some (vz (A_tape (m_at + 0))), none, none] [vz m_nodes, vR 80] _
        have ptrI_0 : trI o G471 0 (m_nodes + 1) m_sets (m_depth + 1) m_nodes 0 6 := ⟨(zu K m_nodes 3), (zu O m_nodes 4), (zu Fi m_nodes (-1)), (zu Be m_nodes (-1)), Le, Mo, (zu Z m_nodes 1), LZ, SM, SA, QF, QL, AF, AL, SD, OA, OF, ON, h94, h95, h96, h97, h98, h99, h100, h101, h90, h89, h105, h106, h107, h108, h109, h102, h103, h104, (rgs_zu jk (by omega)), (rgs_zu jo (by omega)), (rgs_zu jfi (by omega)), (rgs_zu jbe (by omega)), jle, jmo, (rgs_zu jz (by omega)), jlz, jsm, jsa, jqf, jql, jaf, jal, jsd, joa, jof, jon, (rtr_leaf jt (by omega) (Or.inr (Or.inr (Or.inr ⟨rfl, rfl, by omega, by omega⟩)))), (by omega), (fun h => absurd h (by decide)), (fun h => absurd h (by decide)), (fun h => absurd h (by decide)), (fun h => absurd h (by decide)), (fun _ => by rw [zu_self]; decide), jss⟩
        refine zz_iconst d_MO_readPart_176 ?_
        refine ab_callV (d' := d - 1) (as := [vz m_nodes, vz 1]) (st := []) (r := _) (z_MO_part (o := o) (m_thrown := m_thrown) (m_taped := m_taped) (m_length := m_length) (m_out := m_out) (m_wide := m_wide) (m_gathered := m_gathered) (m_sets := m_sets) (m_ranges := m_ranges) (m_nodes := (m_nodes + 1)) (m_at := m_at) (m_flags := m_flags) (m_fault := m_fault) (m_place := m_place) (m_numbered := m_numbered) (m_depth := m_depth) (m_value := m_value) (m_isNot := m_isNot) (m_least0 := m_least0) (m_most0 := m_most0) (m_slot := m_slot) (m_work := m_work) (m_got := m_got) (m_rowMany := m_rowMany) (m_charAt := m_charAt) (m_charWide := m_charWide) (m_trail := m_trail) (m_isMatch := m_isMatch) (m_matchGroups := m_matchGroups) (m_allFrom := m_allFrom) (m_allBefore := m_allBefore) (m_founds := m_founds) (m_pieces := m_pieces) (m_writtenMany := m_writtenMany) (m_templateWide := m_templateWide) (m_tooMuch := m_tooMuch) (x := m_nodes) (s := 1) (dh := 0) h80 ptrI_0 (by omega) (by omega) (by omega) (by omega)) (fun oc G2 h => by rcases h with ⟨h, _⟩ <;> exact ⟨_, h⟩) (by omega) m_MO_part ml_MO_375 im_MO_part se_MO_part c_MO h80.2.2 (Nat.le_of_ble_eq_true rfl) d_MO_readPart_177 rfl ?_
        intro v G472 hq
        rcases hq with ⟨hv, hfk, hlk, hsk, pNtrI_0⟩
        cases hv
        have h80 := hfk.get h80 (by decide)
        have h84 := hfk.get h84 (by decide)
        have h87 := hfk.get h87 (by decide)
        have h88 := hfk.get h88 (by decide)
        have h93 := hfk.get h93 (by decide)
        have h81 := hfk.get h81 (by decide)
        have h82 := hfk.get h82 (by decide)
        have h91 := hfk.get h91 (by decide)
        have h92 := hfk.get h92 (by decide)
        have h110 := hfk.get h110 (by decide)
        have h111 := hfk.get h111 (by decide)
        have ptrI_0 := pNtrI_0
        have hfr := hfr.tr hfk (by decide)
        have hlen := hlk.trans hlen
        have hsl := hsk.trans hsl
        change ab_W _ _ _ G472 180 [some (vR 80), some (vz (A_tape (m_at + 0))), none, none] [] _
        refine ab_aload_n d_MO_readPart_180 rfl ?_
        refine ab_dup d_MO_readPart_181 rfl ?_
        refine ab_getf (fs := mof m_thrown m_taped m_length m_out m_wide m_gathered m_sets m_ranges (m_nodes + 1) m_at m_flags m_fault m_place m_numbered m_depth m_value m_isNot m_least0 m_most0 m_slot m_work m_got m_rowMany m_charAt m_charWide m_trail m_isMatch m_matchGroups m_allFrom m_allBefore m_founds m_pieces m_writtenMany m_templateWide m_tooMuch) f_MO_279 d_MO_readPart_182 h80.2.2 rfl ?_
        refine zz_iconst d_MO_readPart_185 ?_
        refine zz_iadd d_MO_readPart_186 ?_
        refine ab_putf (fs := mof m_thrown m_taped m_length m_out m_wide m_gathered m_sets m_ranges (m_nodes + 1) m_at m_flags m_fault m_place m_numbered m_depth m_value m_isNot m_least0 m_most0 m_slot m_work m_got m_rowMany m_charAt m_charWide m_trail m_isMatch m_matchGroups m_allFrom m_allBefore m_founds m_pieces m_writtenMany m_templateWide m_tooMuch) f_MO_279 (Or.inl rfl) d_MO_readPart_187 h80.2.2 (Nat.le_of_ble_eq_true rfl) (fun _ => ⟨rfl, rfl⟩) (h80.2.1 (by decide)) ?_
        obtain ⟨G473, eG473⟩ : ∃ z : ab_G, z = List.set G472 80 (ab_ob 12 (mof m_thrown m_taped m_length m_out m_wide m_gathered m_sets m_ranges (m_nodes + 1) (m_at + 1) m_flags m_fault m_place m_numbered m_depth m_value m_isNot m_least0 m_most0 m_slot m_work m_got m_rowMany m_charAt m_charWide m_trail m_isMatch m_matchGroups m_allFrom m_allBefore m_founds m_pieces m_writtenMany m_templateWide m_tooMuch)) := ⟨_, rfl⟩
        have h84 := h84.keep h80 eG473 (by decide)
        have h87 := h87.keep h80 eG473 (by decide)
        have h88 := h88.keep h80 eG473 (by decide)
        have h93 := h93.keep h80 eG473 (by decide)
        have h81 := h81.keep h80 eG473 (by decide)
        have h82 := h82.keep h80 eG473 (by decide)
        have h91 := h91.keep h80 eG473 (by decide)
        have h92 := h92.keep h80 eG473 (by decide)
        have h110 := h110.keep h80 eG473 (by decide)
        have h111 := h111.keep h80 eG473 (by decide)
        have hst := (fx.rf (o := o) (S := [280]) (G := G472)).wr h80 eG473 (List.mem_singleton.mpr rfl)
        have ptrI_0 := trI.fr hst ptrI_0 (by decide) (by decide) (by decide) (by decide) (by decide) (by decide) (by decide) (by decide) (by decide) (by decide) (by decide) (by decide) (by decide) (by decide) (by decide) (by decide) (by decide) (by decide)
        have hlen := (z_len eG473).trans hlen
        have hsl := (z_sl h80 eG473 rfl).trans hsl
        have hfr := hfr.wr h80 eG473 (by decide)
        have h80 := h80.kept eG473
        change ab_W _ _ _ (List.set G472 80 (ab_ob 12 (mof m_thrown m_taped m_length m_out m_wide m_gathered m_sets m_ranges (m_nodes + 1) (m_at + 1) m_flags m_fault m_place m_numbered m_depth m_value m_isNot m_least0 m_most0 m_slot m_work m_got m_rowMany m_charAt m_charWide m_trail m_isMatch m_matchGroups m_allFrom m_allBefore m_founds m_pieces m_writtenMany m_templateWide m_tooMuch))) 190 [some (vR 80), some (vz (A_tape (m_at + 0))), none, none] [] _
        rw [← eG473]
        refine ab_goto (tgt := 312) d_MO_readPart_190 (by decide) ?_
        refine ab_vret rfl d_MO_readPart_312 ?_
        rw [hQ]; exact (Or.inl ⟨_, _, _, _, _, _, _, _, _, _, _, _, _, _, _, _, _, _, _, _, _, _, rfl, hfr, hlen, hsl, h80, h87, h88, h93, h91, h92, h110, h111, ptrI_0, (by omega), (by first | exact jmk | exact rgs_w jmk (by omega)), (by first | exact jrl | exact rgs_w jrl (by omega)), (by first | exact jrh | exact rgs_w jrh (by omega)), (by first | exact jns | exact rgs_w jns (by omega)), (by first | exact jnm | exact rgs_w jnm (by omega))⟩)
    replace c463 : nzq (A_tape (m_at + 0)) 94 := c463
    by_cases c474 : (A_tape (m_at + 0)) = 124
    · refine zz_lookup (off := 132) (tgt := 139) d_MO_readPart_7 (by decide) (by omega) (by rw [c474]; decide) (by decide) ?_
      refine ab_aload_n d_MO_readPart_139 rfl ?_
      refine ab_callV (d' := d - 1) (as := []) (st := []) (r := _) (z_MO_closeRow (o := o) (m_thrown := m_thrown) (m_taped := m_taped) (m_length := m_length) (m_out := m_out) (m_wide := m_wide) (m_gathered := m_gathered) (m_sets := m_sets) (m_ranges := m_ranges) (m_nodes := m_nodes) (m_at := m_at) (m_flags := m_flags) (m_fault := m_fault) (m_place := m_place) (m_numbered := m_numbered) (m_depth := m_depth) (m_value := m_value) (m_isNot := m_isNot) (m_least0 := m_least0) (m_most0 := m_most0) (m_slot := m_slot) (m_work := m_work) (m_got := m_got) (m_rowMany := m_rowMany) (m_charAt := m_charAt) (m_charWide := m_charWide) (m_trail := m_trail) (m_isMatch := m_isMatch) (m_matchGroups := m_matchGroups) (m_allFrom := m_allFrom) (m_allBefore := m_allBefore) (m_founds := m_founds) (m_pieces := m_pieces) (m_writtenMany := m_writtenMany) (m_templateWide := m_templateWide) (m_tooMuch := m_tooMuch) (re_ := 0) h80 ptrI_0 (by omega) (by omega) (by omega) (by omega)) (fun oc G2 h => by rcases h with ⟨h, _⟩ <;> exact ⟨_, h⟩) (by omega) m_MO_closeRow ml_MO_292 im_MO_closeRow se_MO_closeRow c_MO h80.2.2 (Nat.le_of_ble_eq_true rfl) d_MO_readPart_140 rfl ?_
      intro v G475 hq
      rcases hq with ⟨hv, hfk, hlk, hsk, hN80, pNtrI_0⟩
      cases hv
      have h84 := hfk.get h84 (by decide)
      have h87 := hfk.get h87 (by decide)
      have h88 := hfk.get h88 (by decide)
      have h93 := hfk.get h93 (by decide)
      have h81 := hfk.get h81 (by decide)
      have h82 := hfk.get h82 (by decide)
      have h91 := hfk.get h91 (by decide)
      have h92 := hfk.get h92 (by decide)
      have h110 := hfk.get h110 (by decide)
      have h111 := hfk.get h111 (by decide)
      have ptrI_0 := pNtrI_0
      have hfr := hfr.tr hfk (by decide)
      have hlen := hlk.trans hlen
      have hsl := hsk.trans hsl
      have h80 := hN80
      change ab_W _ _ _ G475 143 [some (vR 80), some (vz (A_tape (m_at + 0))), none, none] [] _
      obtain ⟨K, O, Fi, Be, Le, Mo, Z, LZ, SM, SA, QF, QL, AF, AL, SD, OA, OF, ON, h94, h95, h96, h97, h98, h99, h100, h101, h90, h89, h105, h106, h107, h108, h109, h102, h103, h104, jk, jo, jfi, jbe, jle, jmo, jz, jlz, jsm, jsa, jqf, jql, jaf, jal, jsd, joa, jof, jon, jt, cnd, cre, crs, crz, ck5, ck6, jss⟩ := ptrI_0
      have ptrI_0 : trI o G475 0 (m_nodes + 1) m_sets (m_depth + 1) (-1) 0 0 := ⟨K, O, Fi, Be, Le, Mo, Z, LZ, SM, SA, QF, QL, AF, AL, SD, OA, OF, ON, h94, h95, h96, h97, h98, h99, h100, h101, h90, h89, h105, h106, h107, h108, h109, h102, h103, h104, jk, jo, jfi, jbe, jle, jmo, jz, jlz, jsm, jsa, jqf, jql, jaf, jal, jsd, joa, jof, jon, jt, (by omega), (fun h => absurd h (by decide)), (fun h => absurd h (by decide)), (fun h => absurd h (by decide)), (fun h => absurd h (by decide)), (fun h => absurd h (by decide)), jss⟩
      refine ab_aload_n d_MO_readPart_143 rfl ?_
      refine ab_dup d_MO_readPart_144 rfl ?_
      refine ab_getf (fs := mof m_thrown m_taped m_length m_out m_wide m_gathered m_sets m_ranges (m_nodes + 1) m_at m_flags m_fault m_place m_numbered m_depth m_value m_isNot m_least0 m_most0 m_slot m_work m_got m_rowMany m_charAt m_charWide m_trail m_isMatch m_matchGroups m_allFrom m_allBefore m_founds m_pieces m_writtenMany m_templateWide m_tooMuch) f_MO_279 d_MO_readPart_145 h80.2.2 rfl ?_
      refine zz_iconst d_MO_readPart_148 ?_
      refine zz_iadd d_MO_readPart_149 ?_
      refine ab_putf (fs := mof m_thrown m_taped m_length m_out m_wide m_gathered m_sets m_ranges (m_nodes + 1) m_at m_flags m_fault m_place m_numbered m_depth m_value m_isNot m_least0 m_most0 m_slot m_work m_got m_rowMany m_charAt m_charWide m_trail m_isMatch m_matchGroups m_allFrom m_allBefore m_founds m_pieces m_writtenMany m_templateWide m_tooMuch) f_MO_279 (Or.inl rfl) d_MO_readPart_150 h80.2.2 (Nat.le_of_ble_eq_true rfl) (fun _ => ⟨rfl, rfl⟩) (h80.2.1 (by decide)) ?_
      obtain ⟨G476, eG476⟩ : ∃ z : ab_G, z = List.set G475 80 (ab_ob 12 (mof m_thrown m_taped m_length m_out m_wide m_gathered m_sets m_ranges (m_nodes + 1) (m_at + 1) m_flags m_fault m_place m_numbered m_depth m_value m_isNot m_least0 m_most0 m_slot m_work m_got m_rowMany m_charAt m_charWide m_trail m_isMatch m_matchGroups m_allFrom m_allBefore m_founds m_pieces m_writtenMany m_templateWide m_tooMuch)) := ⟨_, rfl⟩
      have h84 := h84.keep h80 eG476 (by decide)
      have h87 := h87.keep h80 eG476 (by decide)
      have h88 := h88.keep h80 eG476 (by decide)
      have h93 := h93.keep h80 eG476 (by decide)
      have h81 := h81.keep h80 eG476 (by decide)
      have h82 := h82.keep h80 eG476 (by decide)
      have h91 := h91.keep h80 eG476 (by decide)
      have h92 := h92.keep h80 eG476 (by decide)
      have h110 := h110.keep h80 eG476 (by decide)
      have h111 := h111.keep h80 eG476 (by decide)
      have hst := (fx.rf (o := o) (S := [280]) (G := G475)).wr h80 eG476 (List.mem_singleton.mpr rfl)
      have ptrI_0 := trI.fr hst ptrI_0 (by decide) (by decide) (by decide) (by decide) (by decide) (by decide) (by decide) (by decide) (by decide) (by decide) (by decide) (by decide) (by decide) (by decide) (by decide) (by decide) (by decide) (by decide)
      have hlen := (z_len eG476).trans hlen
      have hsl := (z_sl h80 eG476 rfl).trans hsl
      have hfr := hfr.wr h80 eG476 (by decide)
      have h80 := h80.kept eG476
      change ab_W _ _ _ (List.set G475 80 (ab_ob 12 (mof m_thrown m_taped m_length m_out m_wide m_gathered m_sets m_ranges (m_nodes + 1) (m_at + 1) m_flags m_fault m_place m_numbered m_depth m_value m_isNot m_least0 m_most0 m_slot m_work m_got m_rowMany m_charAt m_charWide m_trail m_isMatch m_matchGroups m_allFrom m_allBefore m_founds m_pieces m_writtenMany m_templateWide m_tooMuch))) 153 [some (vR 80), some (vz (A_tape (m_at + 0))), none, none] [] _
      rw [← eG476]
      refine ab_goto (tgt := 312) d_MO_readPart_153 (by decide) ?_
      refine ab_vret rfl d_MO_readPart_312 ?_
      rw [hQ]; exact (Or.inl ⟨_, _, _, _, _, _, _, _, _, _, _, _, _, _, _, _, _, _, _, _, _, _, rfl, hfr, hlen, hsl, h80, h87, h88, h93, h91, h92, h110, h111, ptrI_0, (by omega), (by first | exact jmk | exact rgs_w jmk (by omega)), (by first | exact jrl | exact rgs_w jrl (by omega)), (by first | exact jrh | exact rgs_w jrh (by omega)), (by first | exact jns | exact rgs_w jns (by omega)), (by first | exact jnm | exact rgs_w jnm (by omega))⟩)
    replace c474 : nzq (A_tape (m_at + 0)) 124 := c474
    refine zz_lookup (off := 261) (tgt := 268) d_MO_readPart_7 (by decide) (by omega) (by simp only [Op.lookupswitch.offset]; rw [if_neg (fun h => c4 h.symm)]; rw [if_neg (fun h => c15 h.symm)]; rw [if_neg (fun h => c73 h.symm)]; rw [if_neg (fun h => c131 h.symm)]; rw [if_neg (fun h => c193 h.symm)]; rw [if_neg (fun h => c255 h.symm)]; rw [if_neg (fun h => c285 h.symm)]; rw [if_neg (fun h => c347 h.symm)]; rw [if_neg (fun h => c405 h.symm)]; rw [if_neg (fun h => c463 h.symm)]; rw [if_neg (fun h => c474 h.symm)]) (by decide) ?_
    refine ab_iload_n d_MO_readPart_268 rfl ?_
    refine zz_bipush d_MO_readPart_269 (by decide) ?_
    refine zz_icmp_ne (tgt := 281) d_MO_readPart_271 (by decide) (by omega) (by decide) (fun c478 => ?_) (fun c478 => ?_)
    · replace c478 : nzq (A_tape (m_at + 0)) 123 := c478
      refine zz_iconst d_MO_readPart_281 ?_
      refine ab_istore_n d_MO_readPart_282 (Nat.le_of_ble_eq_true rfl) (Nat.le_of_ble_eq_true rfl) rfl ?_
      change ab_W _ _ _ G 283 [some (vR 80), some (vz (A_tape (m_at + 0))), some (vz (-1)), none] [] _
      refine ab_iload_n d_MO_readPart_283 rfl ?_
      refine zz_if_le (tgt := 295) d_MO_readPart_284 (by decide) (by decide) (fun c479 => ?_) (fun c479 => absurd c479 (by decide))
      refine ab_aload_n d_MO_readPart_295 rfl ?_
      refine ab_callV (d' := d - 1) (as := []) (st := []) (r := _) (z_MO_plain (o := o) (m_thrown := m_thrown) (m_taped := m_taped) (m_length := m_length) (m_out := m_out) (m_wide := m_wide) (m_gathered := m_gathered) (m_sets := m_sets) (m_ranges := m_ranges) (m_nodes := m_nodes) (m_at := m_at) (m_flags := m_flags) (m_fault := m_fault) (m_place := m_place) (m_numbered := m_numbered) (m_depth := m_depth) (m_value := m_value) (m_isNot := m_isNot) (m_least0 := m_least0) (m_most0 := m_most0) (m_slot := m_slot) (m_work := m_work) (m_got := m_got) (m_rowMany := m_rowMany) (m_charAt := m_charAt) (m_charWide := m_charWide) (m_trail := m_trail) (m_isMatch := m_isMatch) (m_matchGroups := m_matchGroups) (m_allFrom := m_allFrom) (m_allBefore := m_allBefore) (m_founds := m_founds) (m_pieces := m_pieces) (m_writtenMany := m_writtenMany) (m_templateWide := m_templateWide) (m_tooMuch := m_tooMuch) (A_tape := A_tape) h80 h84 (by omega) (by omega) jtp (by omega) (by omega) (by omega)) (fun oc G2 h => by rcases h with ⟨_, _, _, h, _⟩ | ⟨_, _, _, h, _⟩ <;> exact ⟨_, h⟩) (by omega) m_MO_plain ml_MO_348 im_MO_plain se_MO_plain c_MO h80.2.2 (Nat.le_of_ble_eq_true rfl) d_MO_readPart_296 rfl ?_
      intro v G480 hq
      rcases hq with ⟨w2481, f2482, p2483, hv, hfk, hlk, hsk, hN80, hq484⟩ | ⟨v485, w2486, a2487, hv, hfk, hlk, hsk, hN80, hq488⟩
      · cases hv
        have h84 := hfk.get h84 (by decide)
        have h87 := hfk.get h87 (by decide)
        have h88 := hfk.get h88 (by decide)
        have h93 := hfk.get h93 (by decide)
        have h81 := hfk.get h81 (by decide)
        have h82 := hfk.get h82 (by decide)
        have h91 := hfk.get h91 (by decide)
        have h92 := hfk.get h92 (by decide)
        have h110 := hfk.get h110 (by decide)
        have h111 := hfk.get h111 (by decide)
        have ptrI_0 := trI.fr hfk ptrI_0 (by decide) (by decide) (by decide) (by decide) (by decide) (by decide) (by decide) (by decide) (by decide) (by decide) (by decide) (by decide) (by decide) (by decide) (by decide) (by decide) (by decide) (by decide)
        have hfr := hfr.tr hfk (by decide)
        have hlen := hlk.trans hlen
        have hsl := hsk.trans hsl
        have h80 := hN80
        change ab_W _ _ _ G480 299 [some (vR 80), some (vz (A_tape (m_at + 0))), some (vz (-1)), none] [vz (-1)] _
        refine ab_istore_n d_MO_readPart_299 (Nat.le_of_ble_eq_true rfl) (Nat.le_of_ble_eq_true rfl) rfl ?_
        change ab_W _ _ _ G480 300 [some (vR 80), some (vz (A_tape (m_at + 0))), some (vz (-1)), some (vz (-1))] [] _
        refine ab_aload_n d_MO_readPart_300 rfl ?_
        refine ab_getf (fs := mof m_thrown m_taped m_length m_out w2481 m_gathered m_sets m_ranges m_nodes m_at m_flags f2482 p2483 m_numbered m_depth m_value m_isNot m_least0 m_most0 m_slot m_work m_got m_rowMany m_charAt m_charWide m_trail m_isMatch m_matchGroups m_allFrom m_allBefore m_founds m_pieces m_writtenMany m_templateWide m_tooMuch) f_MO_273 d_MO_readPart_301 h80.2.2 rfl ?_
        refine zz_if_ne (tgt := 312) d_MO_readPart_304 (by decide) (by omega) (fun c489 => ?_) (fun c489 => absurd c489 (by omega))
        refine ab_vret rfl d_MO_readPart_312 ?_
        rw [hQ]; exact (Or.inr ⟨_, _, _, _, _, _, _, _, _, _, _, _, _, _, _, _, _, _, _, _, _, _, rfl, hfr, hlen, hsl, h80, h87, h88, h93, h91, h92, h110, h111, ptrI_0, (by omega), (by first | exact jmk | exact rgs_w jmk (by omega)), (by first | exact jrl | exact rgs_w jrl (by omega)), (by first | exact jrh | exact rgs_w jrh (by omega)), (by first | exact jns | exact rgs_w jns (by omega)), (by first | exact jnm | exact rgs_w jnm (by omega))⟩)
      · cases hv
        have h84 := hfk.get h84 (by decide)
        have h87 := hfk.get h87 (by decide)
        have h88 := hfk.get h88 (by decide)
        have h93 := hfk.get h93 (by decide)
        have h81 := hfk.get h81 (by decide)
        have h82 := hfk.get h82 (by decide)
        have h91 := hfk.get h91 (by decide)
        have h92 := hfk.get h92 (by decide)
        have h110 := hfk.get h110 (by decide)
        have h111 := hfk.get h111 (by decide)
        have ptrI_0 := trI.fr hfk ptrI_0 (by decide) (by decide) (by decide) (by decide) (by decide) (by decide) (by decide) (by decide) (by decide) (by decide) (by decide) (by decide) (by decide) (by decide) (by decide) (by decide) (by decide) (by decide)
        have hfr := hfr.tr hfk (by decide)
        have hlen := hlk.trans hlen
        have hsl := hsk.trans hsl
        have h80 := hN80
        change ab_W _ _ _ G480 299 [some (vR 80), some (vz (A_tape (m_at + 0))), some (vz (-1)), none] [vz v485] _
        refine ab_istore_n d_MO_readPart_299 (Nat.le_of_ble_eq_true rfl) (Nat.le_of_ble_eq_true rfl) rfl ?_
        change ab_W _ _ _ G480 300 [some (vR 80), some (vz (A_tape (m_at + 0))), some (vz (-1)), some (vz v485)] [] _
        refine ab_aload_n d_MO_readPart_300 rfl ?_
        refine ab_getf (fs := mof m_thrown m_taped m_length m_out w2486 m_gathered m_sets m_ranges m_nodes a2487 m_flags m_fault m_place m_numbered m_depth m_value m_isNot m_least0 m_most0 m_slot m_work m_got m_rowMany m_charAt m_charWide m_trail m_isMatch m_matchGroups m_allFrom m_allBefore m_founds m_pieces m_writtenMany m_templateWide m_tooMuch) f_MO_273 d_MO_readPart_301 h80.2.2 rfl ?_
        refine zz_if_ne (tgt := 312) d_MO_readPart_304 (by decide) (by omega) (fun c490 => absurd c490 (by omega)) (fun c490 => ?_)
        refine ab_aload_n d_MO_readPart_307 rfl ?_
        refine ab_iload_n d_MO_readPart_308 rfl ?_
        refine ab_callV (d' := d - 1) (as := [vz v485]) (st := []) (r := _) (z_MO_readCharacter (o := o) (m_thrown := m_thrown) (m_taped := m_taped) (m_length := m_length) (m_out := m_out) (m_wide := w2486) (m_gathered := m_gathered) (m_sets := m_sets) (m_ranges := m_ranges) (m_nodes := m_nodes) (m_at := a2487) (m_flags := m_flags) (m_fault := m_fault) (m_place := m_place) (m_numbered := m_numbered) (m_depth := m_depth) (m_value := m_value) (m_isNot := m_isNot) (m_least0 := m_least0) (m_most0 := m_most0) (m_slot := m_slot) (m_work := m_work) (m_got := m_got) (m_rowMany := m_rowMany) (m_charAt := m_charAt) (m_charWide := m_charWide) (m_trail := m_trail) (m_isMatch := m_isMatch) (m_matchGroups := m_matchGroups) (m_allFrom := m_allFrom) (m_allBefore := m_allBefore) (m_founds := m_founds) (m_pieces := m_pieces) (m_writtenMany := m_writtenMany) (m_templateWide := m_templateWide) (m_tooMuch := m_tooMuch) (A_tape := A_tape) (LO := LO) (HI := HI) (MK := MK) (RL := RL) (RH := RH) (NS := NS) (NM := NM) (c := v485) h80 h84 h87 h88 h93 h81 h82 h91 h92 h110 h111 ptrI_0 (by omega) (by omega) jtp jmk jrl jrh jns jnm (by omega) (by omega) (by omega) (by omega) (by omega)) (fun oc G2 h => by rcases h with ⟨_, _, _, _, _, _, _, _, _, _, _, _, _, _, _, _, _, _, _, _, _, _, h, _⟩ <;> exact ⟨_, h⟩) (by omega) m_MO_readCharacter ml_MO_378 im_MO_readCharacter se_MO_readCharacter c_MO h80.2.2 (Nat.le_of_ble_eq_true rfl) d_MO_readPart_309 rfl ?_
        intro v G491 hq
        rcases hq with ⟨a2492, v2493, nt2494, w2495, g2496, s2497, r2498, n2499, fl2500, nu2501, d2502, le2503, mo2504, f2505, p2506, LO2507, HI2508, MK2509, RL2510, RH2511, NS2512, NM2513, hv, hfk, hlk, hsk, hN80, hN87, hN88, hN93, hN91, hN92, hN110, hN111, pNtrI_0, hq514, hq515, hq516, hq517, hq518, hq519⟩
        cases hv
        have h84 := hfk.get h84 (by decide)
        have h81 := hfk.get h81 (by decide)
        have h82 := hfk.get h82 (by decide)
        have ptrI_0 := pNtrI_0
        have hfr := hfr.tr hfk (by decide)
        have hlen := hlk.trans hlen
        have hsl := hsk.trans hsl
        have h80 := hN80
        have h87 := hN87
        have h88 := hN88
        have h93 := hN93
        have h91 := hN91
        have h92 := hN92
        have h110 := hN110
        have h111 := hN111
        change ab_W _ _ _ G491 312 [some (vR 80), some (vz (A_tape (m_at + 0))), some (vz (-1)), some (vz v485)] [] _
        refine ab_vret rfl d_MO_readPart_312 ?_
        rw [hQ]; exact (Or.inl ⟨_, _, _, _, _, _, _, _, _, _, _, _, _, _, _, _, _, _, _, _, _, _, rfl, hfr, hlen, hsl, h80, h87, h88, h93, h91, h92, h110, h111, ptrI_0, (by omega), (by first | exact hq515 | exact rgs_w hq515 (by omega)), (by first | exact hq516 | exact rgs_w hq516 (by omega)), (by first | exact hq517 | exact rgs_w hq517 (by omega)), (by first | exact hq518 | exact rgs_w hq518 (by omega)), (by first | exact hq519 | exact rgs_w hq519 (by omega))⟩)
    · refine ab_aload_n d_MO_readPart_274 rfl ?_
      refine ab_callV (d' := d - 1) (as := []) (st := []) (r := _) (z_MO_numbersEnd (o := o) (m_thrown := m_thrown) (m_taped := m_taped) (m_length := m_length) (m_out := m_out) (m_wide := m_wide) (m_gathered := m_gathered) (m_sets := m_sets) (m_ranges := m_ranges) (m_nodes := m_nodes) (m_at := m_at) (m_flags := m_flags) (m_fault := m_fault) (m_place := m_place) (m_numbered := m_numbered) (m_depth := m_depth) (m_value := m_value) (m_isNot := m_isNot) (m_least0 := m_least0) (m_most0 := m_most0) (m_slot := m_slot) (m_work := m_work) (m_got := m_got) (m_rowMany := m_rowMany) (m_charAt := m_charAt) (m_charWide := m_charWide) (m_trail := m_trail) (m_isMatch := m_isMatch) (m_matchGroups := m_matchGroups) (m_allFrom := m_allFrom) (m_allBefore := m_allBefore) (m_founds := m_founds) (m_pieces := m_pieces) (m_writtenMany := m_writtenMany) (m_templateWide := m_templateWide) (m_tooMuch := m_tooMuch) (A_tape := A_tape) h80 h84 (by omega) (by omega) jtp (by omega) (by omega)) (fun oc G2 h => by rcases h with ⟨_, _, h, _⟩ | ⟨_, _, _, h, _⟩ <;> exact ⟨_, h⟩) (by omega) m_MO_numbersEnd ml_MO_430 im_MO_numbersEnd se_MO_numbersEnd c_MO h80.2.2 (Nat.le_of_ble_eq_true rfl) d_MO_readPart_275 rfl ?_
      intro v G520 hq
      rcases hq with ⟨le2521, mo2522, hv, hfk, hlk, hsk, hN80⟩ | ⟨k2523, le2524, mo2525, hv, hfk, hlk, hsk, hN80, hq526⟩
      · cases hv
        have h84 := hfk.get h84 (by decide)
        have h87 := hfk.get h87 (by decide)
        have h88 := hfk.get h88 (by decide)
        have h93 := hfk.get h93 (by decide)
        have h81 := hfk.get h81 (by decide)
        have h82 := hfk.get h82 (by decide)
        have h91 := hfk.get h91 (by decide)
        have h92 := hfk.get h92 (by decide)
        have h110 := hfk.get h110 (by decide)
        have h111 := hfk.get h111 (by decide)
        have ptrI_0 := trI.fr hfk ptrI_0 (by decide) (by decide) (by decide) (by decide) (by decide) (by decide) (by decide) (by decide) (by decide) (by decide) (by decide) (by decide) (by decide) (by decide) (by decide) (by decide) (by decide) (by decide)
        have hfr := hfr.tr hfk (by decide)
        have hlen := hlk.trans hlen
        have hsl := hsk.trans hsl
        have h80 := hN80
        change ab_W _ _ _ G520 278 [some (vR 80), some (vz (A_tape (m_at + 0))), none, none] [vz (-1)] _
        refine ab_goto (tgt := 282) d_MO_readPart_278 (by decide) ?_
        refine ab_istore_n d_MO_readPart_282 (Nat.le_of_ble_eq_true rfl) (Nat.le_of_ble_eq_true rfl) rfl ?_
        change ab_W _ _ _ G520 283 [some (vR 80), some (vz (A_tape (m_at + 0))), some (vz (-1)), none] [] _
        refine ab_iload_n d_MO_readPart_283 rfl ?_
        refine zz_if_le (tgt := 295) d_MO_readPart_284 (by decide) (by decide) (fun c527 => ?_) (fun c527 => absurd c527 (by decide))
        refine ab_aload_n d_MO_readPart_295 rfl ?_
        refine ab_callV (d' := d - 1) (as := []) (st := []) (r := _) (z_MO_plain (o := o) (m_thrown := m_thrown) (m_taped := m_taped) (m_length := m_length) (m_out := m_out) (m_wide := m_wide) (m_gathered := m_gathered) (m_sets := m_sets) (m_ranges := m_ranges) (m_nodes := m_nodes) (m_at := m_at) (m_flags := m_flags) (m_fault := m_fault) (m_place := m_place) (m_numbered := m_numbered) (m_depth := m_depth) (m_value := m_value) (m_isNot := m_isNot) (m_least0 := le2521) (m_most0 := mo2522) (m_slot := m_slot) (m_work := m_work) (m_got := m_got) (m_rowMany := m_rowMany) (m_charAt := m_charAt) (m_charWide := m_charWide) (m_trail := m_trail) (m_isMatch := m_isMatch) (m_matchGroups := m_matchGroups) (m_allFrom := m_allFrom) (m_allBefore := m_allBefore) (m_founds := m_founds) (m_pieces := m_pieces) (m_writtenMany := m_writtenMany) (m_templateWide := m_templateWide) (m_tooMuch := m_tooMuch) (A_tape := A_tape) h80 h84 (by omega) (by omega) jtp (by omega) (by omega) (by omega)) (fun oc G2 h => by rcases h with ⟨_, _, _, h, _⟩ | ⟨_, _, _, h, _⟩ <;> exact ⟨_, h⟩) (by omega) m_MO_plain ml_MO_348 im_MO_plain se_MO_plain c_MO h80.2.2 (Nat.le_of_ble_eq_true rfl) d_MO_readPart_296 rfl ?_
        intro v G528 hq
        rcases hq with ⟨w2529, f2530, p2531, hv, hfk, hlk, hsk, hN80, hq532⟩ | ⟨v533, w2534, a2535, hv, hfk, hlk, hsk, hN80, hq536⟩
        · cases hv
          have h84 := hfk.get h84 (by decide)
          have h87 := hfk.get h87 (by decide)
          have h88 := hfk.get h88 (by decide)
          have h93 := hfk.get h93 (by decide)
          have h81 := hfk.get h81 (by decide)
          have h82 := hfk.get h82 (by decide)
          have h91 := hfk.get h91 (by decide)
          have h92 := hfk.get h92 (by decide)
          have h110 := hfk.get h110 (by decide)
          have h111 := hfk.get h111 (by decide)
          have ptrI_0 := trI.fr hfk ptrI_0 (by decide) (by decide) (by decide) (by decide) (by decide) (by decide) (by decide) (by decide) (by decide) (by decide) (by decide) (by decide) (by decide) (by decide) (by decide) (by decide) (by decide) (by decide)
          have hfr := hfr.tr hfk (by decide)
          have hlen := hlk.trans hlen
          have hsl := hsk.trans hsl
          have h80 := hN80
          change ab_W _ _ _ G528 299 [some (vR 80), some (vz (A_tape (m_at + 0))), some (vz (-1)), none] [vz (-1)] _
          refine ab_istore_n d_MO_readPart_299 (Nat.le_of_ble_eq_true rfl) (Nat.le_of_ble_eq_true rfl) rfl ?_
          change ab_W _ _ _ G528 300 [some (vR 80), some (vz (A_tape (m_at + 0))), some (vz (-1)), some (vz (-1))] [] _
          refine ab_aload_n d_MO_readPart_300 rfl ?_
          refine ab_getf (fs := mof m_thrown m_taped m_length m_out w2529 m_gathered m_sets m_ranges m_nodes m_at m_flags f2530 p2531 m_numbered m_depth m_value m_isNot le2521 mo2522 m_slot m_work m_got m_rowMany m_charAt m_charWide m_trail m_isMatch m_matchGroups m_allFrom m_allBefore m_founds m_pieces m_writtenMany m_templateWide m_tooMuch) f_MO_273 d_MO_readPart_301 h80.2.2 rfl ?_
          refine zz_if_ne (tgt := 312) d_MO_readPart_304 (by decide) (by omega) (fun c537 => ?_) (fun c537 => absurd c537 (by omega))
          refine ab_vret rfl d_MO_readPart_312 ?_
          rw [hQ]; exact (Or.inr ⟨_, _, _, _, _, _, _, _, _, _, _, _, _, _, _, _, _, _, _, _, _, _, rfl, hfr, hlen, hsl, h80, h87, h88, h93, h91, h92, h110, h111, ptrI_0, (by omega), (by first | exact jmk | exact rgs_w jmk (by omega)), (by first | exact jrl | exact rgs_w jrl (by omega)), (by first | exact jrh | exact rgs_w jrh (by omega)), (by first | exact jns | exact rgs_w jns (by omega)), (by first | exact jnm | exact rgs_w jnm (by omega))⟩)
        · cases hv
          have h84 := hfk.get h84 (by decide)
          have h87 := hfk.get h87 (by decide)
          have h88 := hfk.get h88 (by decide)
          have h93 := hfk.get h93 (by decide)
          have h81 := hfk.get h81 (by decide)
          have h82 := hfk.get h82 (by decide)
          have h91 := hfk.get h91 (by decide)
          have h92 := hfk.get h92 (by decide)
          have h110 := hfk.get h110 (by decide)
          have h111 := hfk.get h111 (by decide)
          have ptrI_0 := trI.fr hfk ptrI_0 (by decide) (by decide) (by decide) (by decide) (by decide) (by decide) (by decide) (by decide) (by decide) (by decide) (by decide) (by decide) (by decide) (by decide) (by decide) (by decide) (by decide) (by decide)
          have hfr := hfr.tr hfk (by decide)
          have hlen := hlk.trans hlen
          have hsl := hsk.trans hsl
          have h80 := hN80
          change ab_W _ _ _ G528 299 [some (vR 80), some (vz (A_tape (m_at + 0))), some (vz (-1)), none] [vz v533] _
          refine ab_istore_n d_MO_readPart_299 (Nat.le_of_ble_eq_true rfl) (Nat.le_of_ble_eq_true rfl) rfl ?_
          change ab_W _ _ _ G528 300 [some (vR 80), some (vz (A_tape (m_at + 0))), some (vz (-1)), some (vz v533)] [] _
          refine ab_aload_n d_MO_readPart_300 rfl ?_
          refine ab_getf (fs := mof m_thrown m_taped m_length m_out w2534 m_gathered m_sets m_ranges m_nodes a2535 m_flags m_fault m_place m_numbered m_depth m_value m_isNot le2521 mo2522 m_slot m_work m_got m_rowMany m_charAt m_charWide m_trail m_isMatch m_matchGroups m_allFrom m_allBefore m_founds m_pieces m_writtenMany m_templateWide m_tooMuch) f_MO_273 d_MO_readPart_301 h80.2.2 rfl ?_
          refine zz_if_ne (tgt := 312) d_MO_readPart_304 (by decide) (by omega) (fun c538 => absurd c538 (by omega)) (fun c538 => ?_)
          refine ab_aload_n d_MO_readPart_307 rfl ?_
          refine ab_iload_n d_MO_readPart_308 rfl ?_
          refine ab_callV (d' := d - 1) (as := [vz v533]) (st := []) (r := _) (z_MO_readCharacter (o := o) (m_thrown := m_thrown) (m_taped := m_taped) (m_length := m_length) (m_out := m_out) (m_wide := w2534) (m_gathered := m_gathered) (m_sets := m_sets) (m_ranges := m_ranges) (m_nodes := m_nodes) (m_at := a2535) (m_flags := m_flags) (m_fault := m_fault) (m_place := m_place) (m_numbered := m_numbered) (m_depth := m_depth) (m_value := m_value) (m_isNot := m_isNot) (m_least0 := le2521) (m_most0 := mo2522) (m_slot := m_slot) (m_work := m_work) (m_got := m_got) (m_rowMany := m_rowMany) (m_charAt := m_charAt) (m_charWide := m_charWide) (m_trail := m_trail) (m_isMatch := m_isMatch) (m_matchGroups := m_matchGroups) (m_allFrom := m_allFrom) (m_allBefore := m_allBefore) (m_founds := m_founds) (m_pieces := m_pieces) (m_writtenMany := m_writtenMany) (m_templateWide := m_templateWide) (m_tooMuch := m_tooMuch) (A_tape := A_tape) (LO := LO) (HI := HI) (MK := MK) (RL := RL) (RH := RH) (NS := NS) (NM := NM) (c := v533) h80 h84 h87 h88 h93 h81 h82 h91 h92 h110 h111 ptrI_0 (by omega) (by omega) jtp jmk jrl jrh jns jnm (by omega) (by omega) (by omega) (by omega) (by omega)) (fun oc G2 h => by rcases h with ⟨_, _, _, _, _, _, _, _, _, _, _, _, _, _, _, _, _, _, _, _, _, _, h, _⟩ <;> exact ⟨_, h⟩) (by omega) m_MO_readCharacter ml_MO_378 im_MO_readCharacter se_MO_readCharacter c_MO h80.2.2 (Nat.le_of_ble_eq_true rfl) d_MO_readPart_309 rfl ?_
          intro v G539 hq
          rcases hq with ⟨a2540, v2541, nt2542, w2543, g2544, s2545, r2546, n2547, fl2548, nu2549, d2550, le2551, mo2552, f2553, p2554, LO2555, HI2556, MK2557, RL2558, RH2559, NS2560, NM2561, hv, hfk, hlk, hsk, hN80, hN87, hN88, hN93, hN91, hN92, hN110, hN111, pNtrI_0, hq562, hq563, hq564, hq565, hq566, hq567⟩
          cases hv
          have h84 := hfk.get h84 (by decide)
          have h81 := hfk.get h81 (by decide)
          have h82 := hfk.get h82 (by decide)
          have ptrI_0 := pNtrI_0
          have hfr := hfr.tr hfk (by decide)
          have hlen := hlk.trans hlen
          have hsl := hsk.trans hsl
          have h80 := hN80
          have h87 := hN87
          have h88 := hN88
          have h93 := hN93
          have h91 := hN91
          have h92 := hN92
          have h110 := hN110
          have h111 := hN111
          change ab_W _ _ _ G539 312 [some (vR 80), some (vz (A_tape (m_at + 0))), some (vz (-1)), some (vz v533)] [] _
          refine ab_vret rfl d_MO_readPart_312 ?_
          rw [hQ]; exact (Or.inl ⟨_, _, _, _, _, _, _, _, _, _, _, _, _, _, _, _, _, _, _, _, _, _, rfl, hfr, hlen, hsl, h80, h87, h88, h93, h91, h92, h110, h111, ptrI_0, (by omega), (by first | exact hq563 | exact rgs_w hq563 (by omega)), (by first | exact hq564 | exact rgs_w hq564 (by omega)), (by first | exact hq565 | exact rgs_w hq565 (by omega)), (by first | exact hq566 | exact rgs_w hq566 (by omega)), (by first | exact hq567 | exact rgs_w hq567 (by omega))⟩)
      · cases hv
        have h84 := hfk.get h84 (by decide)
        have h87 := hfk.get h87 (by decide)
        have h88 := hfk.get h88 (by decide)
        have h93 := hfk.get h93 (by decide)
        have h81 := hfk.get h81 (by decide)
        have h82 := hfk.get h82 (by decide)
        have h91 := hfk.get h91 (by decide)
        have h92 := hfk.get h92 (by decide)
        have h110 := hfk.get h110 (by decide)
        have h111 := hfk.get h111 (by decide)
        have ptrI_0 := trI.fr hfk ptrI_0 (by decide) (by decide) (by decide) (by decide) (by decide) (by decide) (by decide) (by decide) (by decide) (by decide) (by decide) (by decide) (by decide) (by decide) (by decide) (by decide) (by decide) (by decide)
        have hfr := hfr.tr hfk (by decide)
        have hlen := hlk.trans hlen
        have hsl := hsk.trans hsl
        have h80 := hN80
        change ab_W _ _ _ G520 278 [some (vR 80), some (vz (A_tape (m_at + 0))), none, none] [vz k2523] _
        refine ab_goto (tgt := 282) d_MO_readPart_278 (by decide) ?_
        refine ab_istore_n d_MO_readPart_282 (Nat.le_of_ble_eq_true rfl) (Nat.le_of_ble_eq_true rfl) rfl ?_
        change ab_W _ _ _ G520 283 [some (vR 80), some (vz (A_tape (m_at + 0))), some (vz k2523), none] [] _
        refine ab_iload_n d_MO_readPart_283 rfl ?_
        refine zz_if_le (tgt := 295) d_MO_readPart_284 (by decide) (by omega) (fun c568 => absurd c568 (by omega)) (fun c568 => ?_)
        refine ab_aload_n d_MO_readPart_287 rfl ?_
        refine ab_iload_n d_MO_readPart_288 rfl ?_
        refine ab_callV (d' := d - 1) (as := [vz k2523]) (st := []) (r := _) (z_MO_readRepeat (o := o) (m_thrown := m_thrown) (m_taped := m_taped) (m_length := m_length) (m_out := m_out) (m_wide := m_wide) (m_gathered := m_gathered) (m_sets := m_sets) (m_ranges := m_ranges) (m_nodes := m_nodes) (m_at := m_at) (m_flags := m_flags) (m_fault := m_fault) (m_place := m_place) (m_numbered := m_numbered) (m_depth := m_depth) (m_value := m_value) (m_isNot := m_isNot) (m_least0 := le2524) (m_most0 := mo2525) (m_slot := m_slot) (m_work := m_work) (m_got := m_got) (m_rowMany := m_rowMany) (m_charAt := m_charAt) (m_charWide := m_charWide) (m_trail := m_trail) (m_isMatch := m_isMatch) (m_matchGroups := m_matchGroups) (m_allFrom := m_allFrom) (m_allBefore := m_allBefore) (m_founds := m_founds) (m_pieces := m_pieces) (m_writtenMany := m_writtenMany) (m_templateWide := m_templateWide) (m_tooMuch := m_tooMuch) (A_tape := A_tape) (LO := LO) (HI := HI) (MK := MK) (RL := RL) (RH := RH) (NS := NS) (NM := NM) (be := k2523) h80 h84 h87 h88 h93 h81 h82 h91 h92 h110 h111 ptrI_0 (by omega) (by omega) jtp jmk jrl jrh jns jnm (by omega) (by omega) (by omega) (by omega) (by omega)) (fun oc G2 h => by rcases h with ⟨_, _, _, _, _, _, _, _, _, _, _, _, _, _, _, _, _, _, _, _, _, _, h, _⟩ | ⟨_, _, _, _, _, _, _, _, _, _, _, _, _, _, _, _, _, _, _, _, _, _, h, _⟩ <;> exact ⟨_, h⟩) (by omega) m_MO_readRepeat ml_MO_427 im_MO_readRepeat se_MO_readRepeat c_MO h80.2.2 (Nat.le_of_ble_eq_true rfl) d_MO_readPart_289 rfl ?_
        intro v G569 hq
        rcases hq with ⟨a2570, v2571, nt2572, w2573, g2574, s2575, r2576, n2577, fl2578, nu2579, d2580, le2581, mo2582, f2583, p2584, LO2585, HI2586, MK2587, RL2588, RH2589, NS2590, NM2591, hv, hfk, hlk, hsk, hN80, hN87, hN88, hN93, hN91, hN92, hN110, hN111, pNtrI_0, hq592, hq593, hq594, hq595, hq596, hq597⟩ | ⟨a2598, v2599, nt2600, w2601, g2602, s2603, r2604, n2605, fl2606, nu2607, d2608, le2609, mo2610, f2611, p2612, LO2613, HI2614, MK2615, RL2616, RH2617, NS2618, NM2619, hv, hfk, hlk, hsk, hN80, hN87, hN88, hN93, hN91, hN92, hN110, hN111, pNtrI_0, hq620, hq621, hq622, hq623, hq624, hq625⟩
        · cases hv
          have h84 := hfk.get h84 (by decide)
          have h81 := hfk.get h81 (by decide)
          have h82 := hfk.get h82 (by decide)
          have ptrI_0 := pNtrI_0
          have hfr := hfr.tr hfk (by decide)
          have hlen := hlk.trans hlen
          have hsl := hsk.trans hsl
          have h80 := hN80
          have h87 := hN87
          have h88 := hN88
          have h93 := hN93
          have h91 := hN91
          have h92 := hN92
          have h110 := hN110
          have h111 := hN111
          change ab_W _ _ _ G569 292 [some (vR 80), some (vz (A_tape (m_at + 0))), some (vz k2523), none] [] _
          refine ab_goto (tgt := 312) d_MO_readPart_292 (by decide) ?_
          refine ab_vret rfl d_MO_readPart_312 ?_
          rw [hQ]; exact (Or.inl ⟨_, _, _, _, _, _, _, _, _, _, _, _, _, _, _, _, _, _, _, _, _, _, rfl, hfr, hlen, hsl, h80, h87, h88, h93, h91, h92, h110, h111, ptrI_0, (by omega), (by first | exact hq593 | exact rgs_w hq593 (by omega)), (by first | exact hq594 | exact rgs_w hq594 (by omega)), (by first | exact hq595 | exact rgs_w hq595 (by omega)), (by first | exact hq596 | exact rgs_w hq596 (by omega)), (by first | exact hq597 | exact rgs_w hq597 (by omega))⟩)
        · cases hv
          have h84 := hfk.get h84 (by decide)
          have h81 := hfk.get h81 (by decide)
          have h82 := hfk.get h82 (by decide)
          have ptrI_0 := pNtrI_0
          have hfr := hfr.tr hfk (by decide)
          have hlen := hlk.trans hlen
          have hsl := hsk.trans hsl
          have h80 := hN80
          have h87 := hN87
          have h88 := hN88
          have h93 := hN93
          have h91 := hN91
          have h92 := hN92
          have h110 := hN110
          have h111 := hN111
          change ab_W _ _ _ G569 292 [some (vR 80), some (vz (A_tape (m_at + 0))), some (vz k2523), none] [] _
          refine ab_goto (tgt := 312) d_MO_readPart_292 (by decide) ?_
          refine ab_vret rfl d_MO_readPart_312 ?_
          rw [hQ]; exact (Or.inr ⟨_, _, _, _, _, _, _, _, _, _, _, _, _, _, _, _, _, _, _, _, _, _, rfl, hfr, hlen, hsl, h80, h87, h88, h93, h91, h92, h110, h111, ptrI_0, (by omega), (by first | exact hq621 | exact rgs_w hq621 (by omega)), (by first | exact hq622 | exact rgs_w hq622 (by omega)), (by first | exact hq623 | exact rgs_w hq623 (by omega)), (by first | exact hq624 | exact rgs_w hq624 (by omega)), (by first | exact hq625 | exact rgs_w hq625 (by omega))⟩)
  · cases hv
    rw [hGe]
    change ab_W _ _ _ G 5 [some (vR 80), none, none, none] [vz (-1)] _
    exfalso; omega
