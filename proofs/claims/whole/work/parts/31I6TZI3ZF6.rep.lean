set_option maxRecDepth 100000 in
set_option maxHeartbeats 4000000 in
theorem z_MO_closeGroup {X : ab_X} {d : Nat} {o : Nat → Nat} {G : ab_G} {m_thrown : Int} {m_taped : Int} {m_length : Int} {m_out : Int} {m_wide : Int} {m_gathered : Int} {m_sets : Int} {m_ranges : Int} {m_nodes : Int} {m_at : Int} {m_flags : Int} {m_fault : Int} {m_place : Int} {m_numbered : Int} {m_depth : Int} {m_value : Int} {m_isNot : Int} {m_least0 : Int} {m_most0 : Int} {m_slot : Int} {m_work : Int} {m_got : Int} {m_rowMany : Int} {m_charAt : Int} {m_charWide : Int} {m_trail : Int} {m_isMatch : Int} {m_matchGroups : Int} {m_allFrom : Int} {m_allBefore : Int} {m_founds : Int} {m_pieces : Int} {m_writtenMany : Int} {m_templateWide : Int} {m_tooMuch : Int} {A_tape : Int → Int} {LO : Int → Int} {HI : Int → Int} {MK : Int → Int} {RL : Int → Int} {RH : Int → Int} {NS : Int → Int} {NM : Int → Int} {rp : Int} {ls : Int} {SV : Int → Int → Prop} {ro : Sn} {vv : Sn} {a1_ : Int} {b1_ : Int} {c1_ : Int} {d1_ : Int} {e1_ : Int} {t1_ : List Fr} {ao1_ : Option Sn} {ro1_ : Sn} {ts1_ : List Fs} {na : Int → Int} {nl : Int → Int} (h80 : cc o G 80 280 (ab_ob 12 (mof m_thrown m_taped m_length m_out m_wide m_gathered m_sets m_ranges m_nodes m_at m_flags m_fault m_place m_numbered m_depth m_value m_isNot m_least0 m_most0 m_slot m_work m_got m_rowMany m_charAt m_charWide m_trail m_isMatch m_matchGroups m_allFrom m_allBefore m_founds m_pieces m_writtenMany m_templateWide m_tooMuch))) (h84 : cc o G 84 284 (za 2000 A_tape)) (h87 : cc o G 87 287 (za 9000 LO)) (h88 : cc o G 88 288 (za 9000 HI)) (h93 : cc o G 93 293 (zb 1200 MK)) (h81 : cc o G 81 281 (za 13 tbA)) (h82 : cc o G 82 282 (za 66 tbT)) (h91 : cc o G 91 291 (za 24000 RL)) (h92 : cc o G 92 292 (za 24000 RH)) (h110 : cc o G 110 310 (za 120 NS)) (h111 : cc o G 111 311 (za 10 NM)) (ptrI_0 : trI o G 0 m_nodes m_sets (m_depth + 1) (-1) 0 0 ((a1_, b1_, c1_, d1_, e1_) :: t1_) rp ls 0 SV ((ao1_, ro1_) :: ts1_) ro vv mnI RL RH m_ranges 0 0) (n18 : ab_n0 = 18) (cta : 0 ≤ m_taped ∧ m_taped ≤ 2000) (jtp : rgs A_tape 2000 0 255) (jmk : rgs MK 1200 0 1) (jrl : rgs RL 24000 0 1114111) (jrh : rgs RH 24000 0 1114111) (jns : rgs NS 120 0 255) (jnm : rgs NM 10 0 12) (cf : m_fault = 0) (cat : 0 ≤ m_at ∧ m_at < m_taped) (cpo : 0 ≤ m_nodes ∧ m_nodes + 2 * m_depth + 0 ≤ 2 * m_at ∧ 0 ≤ m_sets ∧ m_sets + 0 ≤ m_at ∧ 0 ≤ m_ranges ∧ m_ranges + 0 ≤ 12 * m_at ∧ 0 ≤ m_depth ∧ m_depth ≤ 30 ∧ 0 ≤ m_numbered ∧ m_numbered ≤ 9 ∧ -2147483648 ≤ m_flags ∧ m_flags ≤ 2147483647 ∧ -2147483648 ≤ m_value ∧ m_value ≤ 2147483647) (cfl : 0 ≤ m_flags ∧ m_flags ≤ 15) (crp : 0 ≤ rp ∧ rp ≤ 1) (jnj : nmJ NS NM A_tape na nl m_numbered) (hch : tpk A_tape m_taped m_at = 41) (hd : 4 ≤ d) : ab_F X d y_MO_closeGroup (.code y_MO_closeGroup b_MO_closeGroup 4 none) [vR 80] G (fun oc G2 => (∃ a2 : Int, ∃ v2 : Int, ∃ nt2 : Int, ∃ w2 : Int, ∃ g2 : Int, ∃ s2 : Int, ∃ r2 : Int, ∃ n2 : Int, ∃ fl2 : Int, ∃ nu2 : Int, ∃ d2 : Int, ∃ le2 : Int, ∃ mo2 : Int, ∃ f2 : Int, ∃ p2 : Int, ∃ LO2 : Int → Int, ∃ HI2 : Int → Int, ∃ MK2 : Int → Int, ∃ RL2 : Int → Int, ∃ RH2 : Int → Int, ∃ NS2 : Int → Int, ∃ NM2 : Int → Int, ∃ fr2 : List Fr, ∃ rp2 : Int, ∃ ls2 : Int, ∃ SV2 : Int → Int → Prop, ∃ FS2 : List Fs, ∃ ro2 : Sn, ∃ vv2 : Sn, ∃ na2 : Int → Int, ∃ nl2 : Int → Int, oc = .returned none ∧ fx o o [280, 287, 288, 293, 291, 292, 310, 311, 294, 295, 296, 297, 298, 299, 300, 301, 290, 289, 305, 306, 307, 308, 309, 302, 303, 304] G G2 ∧ G2.length = G.length ∧ ab_slots G2 = ab_slots G ∧ cc o G2 80 280 (ab_ob 12 (mof m_thrown m_taped m_length m_out w2 g2 s2 r2 n2 a2 fl2 f2 p2 nu2 d2 v2 nt2 le2 mo2 m_slot m_work m_got m_rowMany m_charAt m_charWide m_trail m_isMatch m_matchGroups m_allFrom m_allBefore m_founds m_pieces m_writtenMany m_templateWide m_tooMuch)) ∧ cc o G2 87 287 (za 9000 LO2) ∧ cc o G2 88 288 (za 9000 HI2) ∧ cc o G2 93 293 (zb 1200 MK2) ∧ cc o G2 91 291 (za 24000 RL2) ∧ cc o G2 92 292 (za 24000 RH2) ∧ cc o G2 110 310 (za 120 NS2) ∧ cc o G2 111 311 (za 10 NM2) ∧ trI o G2 0 n2 s2 (d2 + 1) (-1) 0 0 fr2 rp2 ls2 0 SV2 FS2 ro2 vv2 mnI RL2 RH2 r2 0 0 ∧ (f2 = 0 ∧ p2 = m_place ∧ m_at < a2 ∧ a2 ≤ m_taped ∧ 0 ≤ n2 ∧ n2 + 2 * d2 ≤ 2 * a2 ∧ 0 ≤ s2 ∧ s2 ≤ a2 ∧ 0 ≤ r2 ∧ r2 ≤ 12 * a2 ∧ 0 ≤ d2 ∧ d2 ≤ 30 ∧ 0 ≤ nu2 ∧ nu2 ≤ 9 ∧ -2147483648 ≤ fl2 ∧ fl2 ≤ 2147483647 ∧ -2147483648 ≤ v2 ∧ v2 ≤ 2147483647) ∧ (rgs MK2 1200 0 1) ∧ (rgs RL2 24000 0 1114111) ∧ (rgs RH2 24000 0 1114111) ∧ (rgs NS2 120 0 255) ∧ (rgs NM2 10 0 12) ∧ (0 ≤ rp2 ∧ rp2 ≤ 1) ∧ (nmJ NS2 NM2 A_tape na2 nl2 nu2) ∧ (stp A_tape m_taped (m_at, m_flags, m_numbered, na, nl, ((a1_, b1_, c1_, d1_, e1_) :: t1_), rp, ls) (a2, fl2, nu2, na2, nl2, fr2, rp2, ls2)) ∧ (stS A_tape m_taped (m_at, m_flags, m_numbered, na, nl, ((a1_, b1_, c1_, d1_, e1_) :: t1_), rp, ls) (((ao1_, ro1_) :: ts1_), ro, vv) (a2, fl2, nu2, na2, nl2, fr2, rp2, ls2) (FS2, ro2, vv2))) ∨ (∃ a2 : Int, ∃ v2 : Int, ∃ nt2 : Int, ∃ w2 : Int, ∃ g2 : Int, ∃ s2 : Int, ∃ r2 : Int, ∃ n2 : Int, ∃ fl2 : Int, ∃ nu2 : Int, ∃ d2 : Int, ∃ le2 : Int, ∃ mo2 : Int, ∃ f2 : Int, ∃ p2 : Int, ∃ LO2 : Int → Int, ∃ HI2 : Int → Int, ∃ MK2 : Int → Int, ∃ RL2 : Int → Int, ∃ RH2 : Int → Int, ∃ NS2 : Int → Int, ∃ NM2 : Int → Int, ∃ fr2 : List Fr, ∃ rp2 : Int, ∃ ls2 : Int, ∃ SV2 : Int → Int → Prop, ∃ FS2 : List Fs, ∃ ro2 : Sn, ∃ vv2 : Sn, oc = .returned none ∧ fx o o [280, 287, 288, 293, 291, 292, 310, 311, 294, 295, 296, 297, 298, 299, 300, 301, 290, 289, 305, 306, 307, 308, 309, 302, 303, 304] G G2 ∧ G2.length = G.length ∧ ab_slots G2 = ab_slots G ∧ cc o G2 80 280 (ab_ob 12 (mof m_thrown m_taped m_length m_out w2 g2 s2 r2 n2 a2 fl2 f2 p2 nu2 d2 v2 nt2 le2 mo2 m_slot m_work m_got m_rowMany m_charAt m_charWide m_trail m_isMatch m_matchGroups m_allFrom m_allBefore m_founds m_pieces m_writtenMany m_templateWide m_tooMuch)) ∧ cc o G2 87 287 (za 9000 LO2) ∧ cc o G2 88 288 (za 9000 HI2) ∧ cc o G2 93 293 (zb 1200 MK2) ∧ cc o G2 91 291 (za 24000 RL2) ∧ cc o G2 92 292 (za 24000 RH2) ∧ cc o G2 110 310 (za 120 NS2) ∧ cc o G2 111 311 (za 10 NM2) ∧ trI o G2 0 n2 s2 (d2 + 1) (-1) 0 0 fr2 rp2 ls2 0 SV2 FS2 ro2 vv2 mnI RL2 RH2 r2 0 0 ∧ (1 ≤ f2 ∧ f2 ≤ 14 ∧ 0 ≤ a2 ∧ a2 ≤ 4000 ∧ 0 ≤ n2 ∧ n2 ≤ 4200 ∧ 0 ≤ s2 ∧ s2 ≤ 2100 ∧ 0 ≤ r2 ∧ r2 ≤ 24000 ∧ 0 ≤ d2 ∧ d2 ≤ 30 ∧ 0 ≤ nu2 ∧ nu2 ≤ 9 ∧ -2147483648 ≤ fl2 ∧ fl2 ≤ 2147483647 ∧ -2147483648 ≤ v2 ∧ v2 ≤ 2147483647) ∧ (rgs MK2 1200 0 1) ∧ (rgs RL2 24000 0 1114111) ∧ (rgs RH2 24000 0 1114111) ∧ (rgs NS2 120 0 255) ∧ (rgs NM2 10 0 12) ∧ (stF A_tape m_taped (m_at, m_flags, m_numbered, na, nl, ((a1_, b1_, c1_, d1_, e1_) :: t1_), rp, ls) f2 p2))) := by
  refine ab_F_of (by decide +kernel) (Nat.le_of_ble_eq_true rfl) ?_
  obtain ⟨Q, hQ⟩ : ∃ z : Outcome → ab_G → Prop, z = (fun oc G2 => (∃ a2 : Int, ∃ v2 : Int, ∃ nt2 : Int, ∃ w2 : Int, ∃ g2 : Int, ∃ s2 : Int, ∃ r2 : Int, ∃ n2 : Int, ∃ fl2 : Int, ∃ nu2 : Int, ∃ d2 : Int, ∃ le2 : Int, ∃ mo2 : Int, ∃ f2 : Int, ∃ p2 : Int, ∃ LO2 : Int → Int, ∃ HI2 : Int → Int, ∃ MK2 : Int → Int, ∃ RL2 : Int → Int, ∃ RH2 : Int → Int, ∃ NS2 : Int → Int, ∃ NM2 : Int → Int, ∃ fr2 : List Fr, ∃ rp2 : Int, ∃ ls2 : Int, ∃ SV2 : Int → Int → Prop, ∃ FS2 : List Fs, ∃ ro2 : Sn, ∃ vv2 : Sn, ∃ na2 : Int → Int, ∃ nl2 : Int → Int, oc = .returned none ∧ fx o o [280, 287, 288, 293, 291, 292, 310, 311, 294, 295, 296, 297, 298, 299, 300, 301, 290, 289, 305, 306, 307, 308, 309, 302, 303, 304] G G2 ∧ G2.length = G.length ∧ ab_slots G2 = ab_slots G ∧ cc o G2 80 280 (ab_ob 12 (mof m_thrown m_taped m_length m_out w2 g2 s2 r2 n2 a2 fl2 f2 p2 nu2 d2 v2 nt2 le2 mo2 m_slot m_work m_got m_rowMany m_charAt m_charWide m_trail m_isMatch m_matchGroups m_allFrom m_allBefore m_founds m_pieces m_writtenMany m_templateWide m_tooMuch)) ∧ cc o G2 87 287 (za 9000 LO2) ∧ cc o G2 88 288 (za 9000 HI2) ∧ cc o G2 93 293 (zb 1200 MK2) ∧ cc o G2 91 291 (za 24000 RL2) ∧ cc o G2 92 292 (za 24000 RH2) ∧ cc o G2 110 310 (za 120 NS2) ∧ cc o G2 111 311 (za 10 NM2) ∧ trI o G2 0 n2 s2 (d2 + 1) (-1) 0 0 fr2 rp2 ls2 0 SV2 FS2 ro2 vv2 mnI RL2 RH2 r2 0 0 ∧ (f2 = 0 ∧ p2 = m_place ∧ m_at < a2 ∧ a2 ≤ m_taped ∧ 0 ≤ n2 ∧ n2 + 2 * d2 ≤ 2 * a2 ∧ 0 ≤ s2 ∧ s2 ≤ a2 ∧ 0 ≤ r2 ∧ r2 ≤ 12 * a2 ∧ 0 ≤ d2 ∧ d2 ≤ 30 ∧ 0 ≤ nu2 ∧ nu2 ≤ 9 ∧ -2147483648 ≤ fl2 ∧ fl2 ≤ 2147483647 ∧ -2147483648 ≤ v2 ∧ v2 ≤ 2147483647) ∧ (rgs MK2 1200 0 1) ∧ (rgs RL2 24000 0 1114111) ∧ (rgs RH2 24000 0 1114111) ∧ (rgs NS2 120 0 255) ∧ (rgs NM2 10 0 12) ∧ (0 ≤ rp2 ∧ rp2 ≤ 1) ∧ (nmJ NS2 NM2 A_tape na2 nl2 nu2) ∧ (stp A_tape m_taped (m_at, m_flags, m_numbered, na, nl, ((a1_, b1_, c1_, d1_, e1_) :: t1_), rp, ls) (a2, fl2, nu2, na2, nl2, fr2, rp2, ls2)) ∧ (stS A_tape m_taped (m_at, m_flags, m_numbered, na, nl, ((a1_, b1_, c1_, d1_, e1_) :: t1_), rp, ls) (((ao1_, ro1_) :: ts1_), ro, vv) (a2, fl2, nu2, na2, nl2, fr2, rp2, ls2) (FS2, ro2, vv2))) ∨ (∃ a2 : Int, ∃ v2 : Int, ∃ nt2 : Int, ∃ w2 : Int, ∃ g2 : Int, ∃ s2 : Int, ∃ r2 : Int, ∃ n2 : Int, ∃ fl2 : Int, ∃ nu2 : Int, ∃ d2 : Int, ∃ le2 : Int, ∃ mo2 : Int, ∃ f2 : Int, ∃ p2 : Int, ∃ LO2 : Int → Int, ∃ HI2 : Int → Int, ∃ MK2 : Int → Int, ∃ RL2 : Int → Int, ∃ RH2 : Int → Int, ∃ NS2 : Int → Int, ∃ NM2 : Int → Int, ∃ fr2 : List Fr, ∃ rp2 : Int, ∃ ls2 : Int, ∃ SV2 : Int → Int → Prop, ∃ FS2 : List Fs, ∃ ro2 : Sn, ∃ vv2 : Sn, oc = .returned none ∧ fx o o [280, 287, 288, 293, 291, 292, 310, 311, 294, 295, 296, 297, 298, 299, 300, 301, 290, 289, 305, 306, 307, 308, 309, 302, 303, 304] G G2 ∧ G2.length = G.length ∧ ab_slots G2 = ab_slots G ∧ cc o G2 80 280 (ab_ob 12 (mof m_thrown m_taped m_length m_out w2 g2 s2 r2 n2 a2 fl2 f2 p2 nu2 d2 v2 nt2 le2 mo2 m_slot m_work m_got m_rowMany m_charAt m_charWide m_trail m_isMatch m_matchGroups m_allFrom m_allBefore m_founds m_pieces m_writtenMany m_templateWide m_tooMuch)) ∧ cc o G2 87 287 (za 9000 LO2) ∧ cc o G2 88 288 (za 9000 HI2) ∧ cc o G2 93 293 (zb 1200 MK2) ∧ cc o G2 91 291 (za 24000 RL2) ∧ cc o G2 92 292 (za 24000 RH2) ∧ cc o G2 110 310 (za 120 NS2) ∧ cc o G2 111 311 (za 10 NM2) ∧ trI o G2 0 n2 s2 (d2 + 1) (-1) 0 0 fr2 rp2 ls2 0 SV2 FS2 ro2 vv2 mnI RL2 RH2 r2 0 0 ∧ (1 ≤ f2 ∧ f2 ≤ 14 ∧ 0 ≤ a2 ∧ a2 ≤ 4000 ∧ 0 ≤ n2 ∧ n2 ≤ 4200 ∧ 0 ≤ s2 ∧ s2 ≤ 2100 ∧ 0 ≤ r2 ∧ r2 ≤ 24000 ∧ 0 ≤ d2 ∧ d2 ≤ 30 ∧ 0 ≤ nu2 ∧ nu2 ≤ 9 ∧ -2147483648 ≤ fl2 ∧ fl2 ≤ 2147483647 ∧ -2147483648 ≤ v2 ∧ v2 ≤ 2147483647) ∧ (rgs MK2 1200 0 1) ∧ (rgs RL2 24000 0 1114111) ∧ (rgs RH2 24000 0 1114111) ∧ (rgs NS2 120 0 255) ∧ (rgs NM2 10 0 12) ∧ (stF A_tape m_taped (m_at, m_flags, m_numbered, na, nl, ((a1_, b1_, c1_, d1_, e1_) :: t1_), rp, ls) f2 p2))) := ⟨_, rfl⟩
  rw [← hQ]
  change ab_W X (ab_pl y_MO_closeGroup b_MO_closeGroup 4 none) d G 0 [some (vR 80), none, none, none] [] Q
  have hfr : fx o o [280, 287, 288, 293, 291, 292, 310, 311, 294, 295, 296, 297, 298, 299, 300, 301, 290, 289, 305, 306, 307, 308, 309, 302, 303, 304] G G := fx.rf
  have hlen : G.length = G.length := rfl
  have hsl : ab_slots G = ab_slots G := rfl
  obtain ⟨K, O, Fi, Be, Le, Mo, Z, LZ, SM, SA, QF, QL, AF, AL, SD, OA, OF, ON, h94, h95, h96, h97, h98, h99, h100, h101, h90, h89, h105, h106, h107, h108, h109, h102, h103, h104, jk, jo, jfi, jbe, jle, jmo, jz, jlz, jsm, jsa, jqf, jql, jaf, jal, jsd, joa, jof, jon, jt, cnd, cre, crs, crz, ck5, ck6, ck7, jss, jsv⟩ := ptrI_0
  have hln_ := jt.j.len
  have ptrI_0 : trI o G 0 m_nodes m_sets (m_depth + 1) (-1) 0 0 ((a1_, b1_, c1_, d1_, e1_) :: t1_) rp ls 0 SV ((ao1_, ro1_) :: ts1_) ro vv mnI RL RH m_ranges 0 0 := ⟨K, O, Fi, Be, Le, Mo, Z, LZ, SM, SA, QF, QL, AF, AL, SD, OA, OF, ON, h94, h95, h96, h97, h98, h99, h100, h101, h90, h89, h105, h106, h107, h108, h109, h102, h103, h104, jk, jo, jfi, jbe, jle, jmo, jz, jlz, jsm, jsa, jqf, jql, jaf, jal, jsd, joa, jof, jon, jt, (by omega), (fun h => absurd h (by decide)), (fun h => absurd h (by decide)), (fun h => absurd h (by decide)), (fun h => absurd h (by decide)), (fun h => absurd h (by decide)), (fun h => absurd h (by decide)), jss, jsv⟩
  have hfo_ : m_at + 4 = m_at + 4 := rfl
  refine ab_aload_n d_MO_closeGroup_0 rfl ?_
  refine ab_getf (fs := mof m_thrown m_taped m_length m_out m_wide m_gathered m_sets m_ranges m_nodes m_at m_flags m_fault m_place m_numbered m_depth m_value m_isNot m_least0 m_most0 m_slot m_work m_got m_rowMany m_charAt m_charWide m_trail m_isMatch m_matchGroups m_allFrom m_allBefore m_founds m_pieces m_writtenMany m_templateWide m_tooMuch) f_MO_282 d_MO_closeGroup_1 h80.2.2 rfl ?_
  refine zz_if_ne (tgt := 17) d_MO_closeGroup_4 (by decide) (by omega) (fun c1 => ?_) (fun c1 => ?_)
  · refine ab_aload_n d_MO_closeGroup_17 rfl ?_
    refine ab_callV (d' := d - 1) (as := []) (st := []) (r := _) (z_MO_closeAll (o := o) (m_thrown := m_thrown) (m_taped := m_taped) (m_length := m_length) (m_out := m_out) (m_wide := m_wide) (m_gathered := m_gathered) (m_sets := m_sets) (m_ranges := m_ranges) (m_nodes := m_nodes) (m_at := m_at) (m_flags := m_flags) (m_fault := m_fault) (m_place := m_place) (m_numbered := m_numbered) (m_depth := m_depth) (m_value := m_value) (m_isNot := m_isNot) (m_least0 := m_least0) (m_most0 := m_most0) (m_slot := m_slot) (m_work := m_work) (m_got := m_got) (m_rowMany := m_rowMany) (m_charAt := m_charAt) (m_charWide := m_charWide) (m_trail := m_trail) (m_isMatch := m_isMatch) (m_matchGroups := m_matchGroups) (m_allFrom := m_allFrom) (m_allBefore := m_allBefore) (m_founds := m_founds) (m_pieces := m_pieces) (m_writtenMany := m_writtenMany) (m_templateWide := m_templateWide) (m_tooMuch := m_tooMuch) (re_ := 0) (rp := rp) (ls := ls) (SV := SV) (ro := ro) (vv := vv) (a1_ := a1_) (b1_ := b1_) (c1_ := c1_) (d1_ := d1_) (e1_ := e1_) (nu9 := 0) (fo9 := 0) (t1_ := t1_) (ao1_ := ao1_) (ro1_ := ro1_) (ts1_ := ts1_) (RL := RL) (RH := RH) h80 ptrI_0 (by omega) (by omega) (by omega) (by omega)) (fun oc G2 h => by rcases h with ⟨h, _⟩ <;> exact ⟨_, h⟩) (by omega) m_MO_closeAll ml_MO_398 im_MO_closeAll se_MO_closeAll c_MO h80.2.2 (Nat.le_of_ble_eq_true rfl) d_MO_closeGroup_18 rfl ?_
    intro v G2 hq
    rcases hq with ⟨hv, hfk, hlk, hsk, hN80, pNtrI_0⟩
    cases hv
    have h84 := hfk.get h84 (by decide)
    have h87 := hfk.get h87 (by decide)
    have h88 := hfk.get h88 (by decide)
    have h93 := hfk.get h93 (by decide)
    have h81 := hfk.get h81 (by decide)
    have h82 := hfk.get h82 (by decide)
    have h91 := hfk.get h91 (by decide)
    have h92 := hfk.get h92 (by decide)
    have h110 := hfk.get h110 (by decide)
    have h111 := hfk.get h111 (by decide)
    have ptrI_0 := pNtrI_0
    have hfr := hfr.tr hfk (by decide)
    have hlen := hlk.trans hlen
    have hsl := hsk.trans hsl
    have h80 := hN80
    change ab_W _ _ _ G2 21 [some (vR 80), none, none, none] [vz (m_nodes + 1)] _
    obtain ⟨K, O, Fi, Be, Le, Mo, Z, LZ, SM, SA, QF, QL, AF, AL, SD, OA, OF, ON, h94, h95, h96, h97, h98, h99, h100, h101, h90, h89, h105, h106, h107, h108, h109, h102, h103, h104, jk, jo, jfi, jbe, jle, jmo, jz, jlz, jsm, jsa, jqf, jql, jaf, jal, jsd, joa, jof, jon, jt, cnd, cre, crs, crz, ck5, ck6, ck7, jss, jsv⟩ := ptrI_0
    have hin_ := (rtr_in jt.j.r).1 (by omega)
    have hzi_ := rtr_z jt.j.r (i := m_nodes + 1) (by omega)
    have hc7_ := ck7 rfl
    have hof_ : OF m_depth = b1_ := hc7_.2.resolve_left (by omega)
    obtain ⟨x1_, x2_, x3_, x4_, x5_, xt_, hxt_, -⟩ := jt.j.hd (by omega)
    obtain ⟨xo_, xr_, xs_, hxs_⟩ := fs_hd jt.len (by omega)
    rw [hxt_, hxs_] at jt
    refine ab_istore_n d_MO_closeGroup_21 (Nat.le_of_ble_eq_true rfl) (Nat.le_of_ble_eq_true rfl) rfl ?_
    change ab_W _ _ _ G2 22 [some (vR 80), some (vz (m_nodes + 1)), none, none] [] _
    refine ab_aload_n d_MO_closeGroup_22 rfl ?_
    refine ab_getf (fs := mof m_thrown m_taped m_length m_out m_wide m_gathered m_sets m_ranges (m_nodes + 1 + 1) m_at m_flags m_fault m_place m_numbered m_depth m_value m_isNot m_least0 m_most0 m_slot m_work m_got m_rowMany m_charAt m_charWide m_trail m_isMatch m_matchGroups m_allFrom m_allBefore m_founds m_pieces m_writtenMany m_templateWide m_tooMuch) f_MO_85 d_MO_closeGroup_23 h80.2.2 rfl ?_
    refine ab_aload_n d_MO_closeGroup_26 rfl ?_
    refine ab_getf (fs := mof m_thrown m_taped m_length m_out m_wide m_gathered m_sets m_ranges (m_nodes + 1 + 1) m_at m_flags m_fault m_place m_numbered m_depth m_value m_isNot m_least0 m_most0 m_slot m_work m_got m_rowMany m_charAt m_charWide m_trail m_isMatch m_matchGroups m_allFrom m_allBefore m_founds m_pieces m_writtenMany m_templateWide m_tooMuch) f_MO_282 d_MO_closeGroup_27 h80.2.2 rfl ?_
    refine zz_iald d_MO_closeGroup_30 h104 (by omega) ?_
    have hq3 := jon m_depth (by omega) (by omega)
    refine ab_istore_n d_MO_closeGroup_31 (Nat.le_of_ble_eq_true rfl) (Nat.le_of_ble_eq_true rfl) rfl ?_
    change ab_W _ _ _ G2 32 [some (vR 80), some (vz (m_nodes + 1)), some (vz (ON m_depth)), none] [] _
    refine ab_aload_n d_MO_closeGroup_32 rfl ?_
    refine ab_aload_n d_MO_closeGroup_33 rfl ?_
    refine ab_getf (fs := mof m_thrown m_taped m_length m_out m_wide m_gathered m_sets m_ranges (m_nodes + 1 + 1) m_at m_flags m_fault m_place m_numbered m_depth m_value m_isNot m_least0 m_most0 m_slot m_work m_got m_rowMany m_charAt m_charWide m_trail m_isMatch m_matchGroups m_allFrom m_allBefore m_founds m_pieces m_writtenMany m_templateWide m_tooMuch) f_MO_82 d_MO_closeGroup_34 h80.2.2 rfl ?_
    refine ab_aload_n d_MO_closeGroup_37 rfl ?_
    refine ab_getf (fs := mof m_thrown m_taped m_length m_out m_wide m_gathered m_sets m_ranges (m_nodes + 1 + 1) m_at m_flags m_fault m_place m_numbered m_depth m_value m_isNot m_least0 m_most0 m_slot m_work m_got m_rowMany m_charAt m_charWide m_trail m_isMatch m_matchGroups m_allFrom m_allBefore m_founds m_pieces m_writtenMany m_templateWide m_tooMuch) f_MO_282 d_MO_closeGroup_38 h80.2.2 rfl ?_
    refine zz_iald d_MO_closeGroup_41 h103 (by omega) ?_
    have hq4 := jof m_depth (by omega) (by omega)
    refine ab_putf (fs := mof m_thrown m_taped m_length m_out m_wide m_gathered m_sets m_ranges (m_nodes + 1 + 1) m_at m_flags m_fault m_place m_numbered m_depth m_value m_isNot m_least0 m_most0 m_slot m_work m_got m_rowMany m_charAt m_charWide m_trail m_isMatch m_matchGroups m_allFrom m_allBefore m_founds m_pieces m_writtenMany m_templateWide m_tooMuch) f_MO_276 (Or.inl rfl) d_MO_closeGroup_42 h80.2.2 (Nat.le_of_ble_eq_true rfl) (fun _ => ⟨rfl, rfl⟩) (h80.2.1 (by decide)) ?_
    obtain ⟨G5, eG5⟩ : ∃ z : ab_G, z = List.set G2 80 (ab_ob 12 (mof m_thrown m_taped m_length m_out m_wide m_gathered m_sets m_ranges (m_nodes + 1 + 1) m_at (OF m_depth) m_fault m_place m_numbered m_depth m_value m_isNot m_least0 m_most0 m_slot m_work m_got m_rowMany m_charAt m_charWide m_trail m_isMatch m_matchGroups m_allFrom m_allBefore m_founds m_pieces m_writtenMany m_templateWide m_tooMuch)) := ⟨_, rfl⟩
    have h84 := h84.keep h80 eG5 (by decide)
    have h87 := h87.keep h80 eG5 (by decide)
    have h88 := h88.keep h80 eG5 (by decide)
    have h93 := h93.keep h80 eG5 (by decide)
    have h81 := h81.keep h80 eG5 (by decide)
    have h82 := h82.keep h80 eG5 (by decide)
    have h91 := h91.keep h80 eG5 (by decide)
    have h92 := h92.keep h80 eG5 (by decide)
    have h110 := h110.keep h80 eG5 (by decide)
    have h111 := h111.keep h80 eG5 (by decide)
    have h94 := h94.keep h80 eG5 (by decide)
    have h95 := h95.keep h80 eG5 (by decide)
    have h96 := h96.keep h80 eG5 (by decide)
    have h97 := h97.keep h80 eG5 (by decide)
    have h98 := h98.keep h80 eG5 (by decide)
    have h99 := h99.keep h80 eG5 (by decide)
    have h100 := h100.keep h80 eG5 (by decide)
    have h101 := h101.keep h80 eG5 (by decide)
    have h90 := h90.keep h80 eG5 (by decide)
    have h89 := h89.keep h80 eG5 (by decide)
    have h105 := h105.keep h80 eG5 (by decide)
    have h106 := h106.keep h80 eG5 (by decide)
    have h107 := h107.keep h80 eG5 (by decide)
    have h108 := h108.keep h80 eG5 (by decide)
    have h109 := h109.keep h80 eG5 (by decide)
    have h102 := h102.keep h80 eG5 (by decide)
    have h103 := h103.keep h80 eG5 (by decide)
    have h104 := h104.keep h80 eG5 (by decide)
    have hlen := (z_len eG5).trans hlen
    have hsl := (z_sl h80 eG5 rfl).trans hsl
    have hfr := hfr.wr h80 eG5 (by decide)
    have h80 := h80.kept eG5
    change ab_W _ _ _ (List.set G2 80 (ab_ob 12 (mof m_thrown m_taped m_length m_out m_wide m_gathered m_sets m_ranges (m_nodes + 1 + 1) m_at (OF m_depth) m_fault m_place m_numbered m_depth m_value m_isNot m_least0 m_most0 m_slot m_work m_got m_rowMany m_charAt m_charWide m_trail m_isMatch m_matchGroups m_allFrom m_allBefore m_founds m_pieces m_writtenMany m_templateWide m_tooMuch))) 45 [some (vR 80), some (vz (m_nodes + 1)), some (vz (ON m_depth)), none] [] _
    rw [← eG5]
    refine ab_aload_n d_MO_closeGroup_45 rfl ?_
    refine ab_dup d_MO_closeGroup_46 rfl ?_
    refine ab_getf (fs := mof m_thrown m_taped m_length m_out m_wide m_gathered m_sets m_ranges (m_nodes + 1 + 1) m_at (OF m_depth) m_fault m_place m_numbered m_depth m_value m_isNot m_least0 m_most0 m_slot m_work m_got m_rowMany m_charAt m_charWide m_trail m_isMatch m_matchGroups m_allFrom m_allBefore m_founds m_pieces m_writtenMany m_templateWide m_tooMuch) f_MO_282 d_MO_closeGroup_47 h80.2.2 rfl ?_
    refine zz_iconst d_MO_closeGroup_50 ?_
    refine zz_isub d_MO_closeGroup_51 ?_
    refine ab_putf (fs := mof m_thrown m_taped m_length m_out m_wide m_gathered m_sets m_ranges (m_nodes + 1 + 1) m_at (OF m_depth) m_fault m_place m_numbered m_depth m_value m_isNot m_least0 m_most0 m_slot m_work m_got m_rowMany m_charAt m_charWide m_trail m_isMatch m_matchGroups m_allFrom m_allBefore m_founds m_pieces m_writtenMany m_templateWide m_tooMuch) f_MO_282 (Or.inl rfl) d_MO_closeGroup_52 h80.2.2 (Nat.le_of_ble_eq_true rfl) (fun _ => ⟨rfl, rfl⟩) (h80.2.1 (by decide)) ?_
    obtain ⟨G6, eG6⟩ : ∃ z : ab_G, z = List.set G5 80 (ab_ob 12 (mof m_thrown m_taped m_length m_out m_wide m_gathered m_sets m_ranges (m_nodes + 1 + 1) m_at (OF m_depth) m_fault m_place m_numbered (m_depth - 1) m_value m_isNot m_least0 m_most0 m_slot m_work m_got m_rowMany m_charAt m_charWide m_trail m_isMatch m_matchGroups m_allFrom m_allBefore m_founds m_pieces m_writtenMany m_templateWide m_tooMuch)) := ⟨_, rfl⟩
    have h84 := h84.keep h80 eG6 (by decide)
    have h87 := h87.keep h80 eG6 (by decide)
    have h88 := h88.keep h80 eG6 (by decide)
    have h93 := h93.keep h80 eG6 (by decide)
    have h81 := h81.keep h80 eG6 (by decide)
    have h82 := h82.keep h80 eG6 (by decide)
    have h91 := h91.keep h80 eG6 (by decide)
    have h92 := h92.keep h80 eG6 (by decide)
    have h110 := h110.keep h80 eG6 (by decide)
    have h111 := h111.keep h80 eG6 (by decide)
    have h94 := h94.keep h80 eG6 (by decide)
    have h95 := h95.keep h80 eG6 (by decide)
    have h96 := h96.keep h80 eG6 (by decide)
    have h97 := h97.keep h80 eG6 (by decide)
    have h98 := h98.keep h80 eG6 (by decide)
    have h99 := h99.keep h80 eG6 (by decide)
    have h100 := h100.keep h80 eG6 (by decide)
    have h101 := h101.keep h80 eG6 (by decide)
    have h90 := h90.keep h80 eG6 (by decide)
    have h89 := h89.keep h80 eG6 (by decide)
    have h105 := h105.keep h80 eG6 (by decide)
    have h106 := h106.keep h80 eG6 (by decide)
    have h107 := h107.keep h80 eG6 (by decide)
    have h108 := h108.keep h80 eG6 (by decide)
    have h109 := h109.keep h80 eG6 (by decide)
    have h102 := h102.keep h80 eG6 (by decide)
    have h103 := h103.keep h80 eG6 (by decide)
    have h104 := h104.keep h80 eG6 (by decide)
    have hlen := (z_len eG6).trans hlen
    have hsl := (z_sl h80 eG6 rfl).trans hsl
    have hfr := hfr.wr h80 eG6 (by decide)
    have h80 := h80.kept eG6
    change ab_W _ _ _ (List.set G5 80 (ab_ob 12 (mof m_thrown m_taped m_length m_out m_wide m_gathered m_sets m_ranges (m_nodes + 1 + 1) m_at (OF m_depth) m_fault m_place m_numbered (m_depth - 1) m_value m_isNot m_least0 m_most0 m_slot m_work m_got m_rowMany m_charAt m_charWide m_trail m_isMatch m_matchGroups m_allFrom m_allBefore m_founds m_pieces m_writtenMany m_templateWide m_tooMuch))) 55 [some (vR 80), some (vz (m_nodes + 1)), some (vz (ON m_depth)), none] [] _
    rw [← eG6]
    refine ab_aload_n d_MO_closeGroup_55 rfl ?_
    refine zz_bipush d_MO_closeGroup_56 (by decide) ?_
    refine ab_iload_n d_MO_closeGroup_58 rfl ?_
    refine ab_aload_n d_MO_closeGroup_59 rfl ?_
    refine ab_getf (fs := mof m_thrown m_taped m_length m_out m_wide m_gathered m_sets m_ranges (m_nodes + 1 + 1) m_at (OF m_depth) m_fault m_place m_numbered (m_depth - 1) m_value m_isNot m_least0 m_most0 m_slot m_work m_got m_rowMany m_charAt m_charWide m_trail m_isMatch m_matchGroups m_allFrom m_allBefore m_founds m_pieces m_writtenMany m_templateWide m_tooMuch) f_MO_68 d_MO_closeGroup_60 h80.2.2 rfl ?_
    refine ab_iload_n d_MO_closeGroup_63 rfl ?_
    refine zz_lald d_MO_closeGroup_64 h100 (by omega) ?_
    have hq7 := jz (m_nodes + 1) (by omega) (by omega)
    refine ab_iload_n d_MO_closeGroup_65 rfl ?_
    refine zz_if_le (tgt := 75) d_MO_closeGroup_66 (by decide) (by omega) (fun c8 => ?_) (fun c8 => ?_)
    · refine zz_lconst d_MO_closeGroup_75 ?_
      change ab_W _ _ _ G6 76 [some (vR 80), some (vz (m_nodes + 1)), some (vz (ON m_depth)), none] [vj 0, vj (Z (m_nodes + 1)), vz (ON m_depth), vz 6, vR 80] _
      refine zz_ladd d_MO_closeGroup_76 ?_
      refine ab_callS (d' := d - 1) (as := [vj ((Z (m_nodes + 1)) + 0)]) (st := [vz (ON m_depth), vz 6, vR 80]) (z_MO_atMost (o := o) (x := ((Z (m_nodes + 1)) + 0)) (by omega)) (fun oc G2 h => by rcases h with ⟨h, _⟩ | ⟨h, _⟩ <;> exact ⟨_, h⟩) (by omega) m_MO_atMost ml_MO_288 st_MO_atMost (Nat.le_of_ble_eq_true rfl) d_MO_closeGroup_77 rfl ?_
      intro v G9 hq
      rcases hq with ⟨hv, hGe, hq10⟩ | ⟨hv, hGe, hq11⟩
      · cases hv
        rw [hGe]
        change ab_W _ _ _ G6 80 [some (vR 80), some (vz (m_nodes + 1)), some (vz (ON m_depth)), none] [vj ((Z (m_nodes + 1)) + 0), vz (ON m_depth), vz 6, vR 80] _
        refine ab_callV (d' := d - 1) (as := [vz 6, vz (ON m_depth), vj ((Z (m_nodes + 1)) + 0)]) (st := []) (r := _) (z_MO_node (o := o) (m_thrown := m_thrown) (m_taped := m_taped) (m_length := m_length) (m_out := m_out) (m_wide := m_wide) (m_gathered := m_gathered) (m_sets := m_sets) (m_ranges := m_ranges) (m_nodes := (m_nodes + 1 + 1)) (m_at := m_at) (m_flags := (OF m_depth)) (m_fault := m_fault) (m_place := m_place) (m_numbered := m_numbered) (m_depth := (m_depth - 1)) (m_value := m_value) (m_isNot := m_isNot) (m_least0 := m_least0) (m_most0 := m_most0) (m_slot := m_slot) (m_work := m_work) (m_got := m_got) (m_rowMany := m_rowMany) (m_charAt := m_charAt) (m_charWide := m_charWide) (m_trail := m_trail) (m_isMatch := m_isMatch) (m_matchGroups := m_matchGroups) (m_allFrom := m_allFrom) (m_allBefore := m_allBefore) (m_founds := m_founds) (m_pieces := m_pieces) (m_writtenMany := m_writtenMany) (m_templateWide := m_templateWide) (m_tooMuch := m_tooMuch) (K := K) (O := O) (Fi := Fi) (Be := Be) (Z := Z) (k := 6) (w := (ON m_depth)) (zs := ((Z (m_nodes + 1)) + 0)) h80 h94 h95 h96 h97 h100 (by omega) (by omega)) (fun oc G2 h => by rcases h with ⟨h, _⟩ <;> exact ⟨_, h⟩) (by omega) m_MO_node ml_MO_269 im_MO_node se_MO_node c_MO h80.2.2 (Nat.le_of_ble_eq_true rfl) d_MO_closeGroup_80 rfl ?_
        intro v G12 hq
        rcases hq with ⟨hv, hfk, hlk, hsk, hN80, hN94, hN95, hN96, hN97, hN100⟩
        cases hv
        have h84 := hfk.get h84 (by decide)
        have h87 := hfk.get h87 (by decide)
        have h88 := hfk.get h88 (by decide)
        have h93 := hfk.get h93 (by decide)
        have h81 := hfk.get h81 (by decide)
        have h82 := hfk.get h82 (by decide)
        have h91 := hfk.get h91 (by decide)
        have h92 := hfk.get h92 (by decide)
        have h110 := hfk.get h110 (by decide)
        have h111 := hfk.get h111 (by decide)
        have h98 := hfk.get h98 (by decide)
        have h99 := hfk.get h99 (by decide)
        have h101 := hfk.get h101 (by decide)
        have h90 := hfk.get h90 (by decide)
        have h89 := hfk.get h89 (by decide)
        have h105 := hfk.get h105 (by decide)
        have h106 := hfk.get h106 (by decide)
        have h107 := hfk.get h107 (by decide)
        have h108 := hfk.get h108 (by decide)
        have h109 := hfk.get h109 (by decide)
        have h102 := hfk.get h102 (by decide)
        have h103 := hfk.get h103 (by decide)
        have h104 := hfk.get h104 (by decide)
        have hfr := hfr.tr hfk (by decide)
        have hlen := hlk.trans hlen
        have hsl := hsk.trans hsl
        have h80 := hN80
        have h94 := hN94
        have h95 := hN95
        have h96 := hN96
        have h97 := hN97
        have h100 := hN100
        change ab_W _ _ _ G12 83 [some (vR 80), some (vz (m_nodes + 1)), some (vz (ON m_depth)), none] [vz (m_nodes + 1 + 1)] _
        refine ab_istore_n d_MO_closeGroup_83 (Nat.le_of_ble_eq_true rfl) (Nat.le_of_ble_eq_true rfl) rfl ?_
        change ab_W _ _ _ G12 84 [some (vR 80), some (vz (m_nodes + 1)), some (vz (ON m_depth)), some (vz (m_nodes + 1 + 1))] [] _
        refine ab_aload_n d_MO_closeGroup_84 rfl ?_
        refine ab_getf (fs := mof m_thrown m_taped m_length m_out m_wide m_gathered m_sets m_ranges ((m_nodes + 1 + 1) + 1) m_at (OF m_depth) m_fault m_place m_numbered (m_depth - 1) m_value m_isNot m_least0 m_most0 m_slot m_work m_got m_rowMany m_charAt m_charWide m_trail m_isMatch m_matchGroups m_allFrom m_allBefore m_founds m_pieces m_writtenMany m_templateWide m_tooMuch) f_MO_56 d_MO_closeGroup_85 h80.2.2 rfl ?_
        refine ab_iload_n d_MO_closeGroup_88 rfl ?_
        refine ab_iload_n d_MO_closeGroup_89 rfl ?_
        refine zz_iast d_MO_closeGroup_90 h96 (by omega) (h96.2.1 (by decide)) ?_
        obtain ⟨G13, eG13⟩ : ∃ z : ab_G, z = List.set G12 96 (za 4200 (zu (zu Fi (m_nodes + 1 + 1) (-1)) (m_nodes + 1 + 1) (m_nodes + 1))) := ⟨_, rfl⟩
        have h80 := h80.keep h96 eG13 (by decide)
        have h84 := h84.keep h96 eG13 (by decide)
        have h87 := h87.keep h96 eG13 (by decide)
        have h88 := h88.keep h96 eG13 (by decide)
        have h93 := h93.keep h96 eG13 (by decide)
        have h81 := h81.keep h96 eG13 (by decide)
        have h82 := h82.keep h96 eG13 (by decide)
        have h91 := h91.keep h96 eG13 (by decide)
        have h92 := h92.keep h96 eG13 (by decide)
        have h110 := h110.keep h96 eG13 (by decide)
        have h111 := h111.keep h96 eG13 (by decide)
        have h94 := h94.keep h96 eG13 (by decide)
        have h95 := h95.keep h96 eG13 (by decide)
        have h97 := h97.keep h96 eG13 (by decide)
        have h98 := h98.keep h96 eG13 (by decide)
        have h99 := h99.keep h96 eG13 (by decide)
        have h100 := h100.keep h96 eG13 (by decide)
        have h101 := h101.keep h96 eG13 (by decide)
        have h90 := h90.keep h96 eG13 (by decide)
        have h89 := h89.keep h96 eG13 (by decide)
        have h105 := h105.keep h96 eG13 (by decide)
        have h106 := h106.keep h96 eG13 (by decide)
        have h107 := h107.keep h96 eG13 (by decide)
        have h108 := h108.keep h96 eG13 (by decide)
        have h109 := h109.keep h96 eG13 (by decide)
        have h102 := h102.keep h96 eG13 (by decide)
        have h103 := h103.keep h96 eG13 (by decide)
        have h104 := h104.keep h96 eG13 (by decide)
        have hlen := (z_len eG13).trans hlen
        have hsl := (z_sl h96 eG13 rfl).trans hsl
        have hfr := hfr.wr h96 eG13 (by decide)
        have h96 := h96.kept eG13
        change ab_W _ _ _ (List.set G12 96 (za 4200 (zu (zu Fi (m_nodes + 1 + 1) (-1)) (m_nodes + 1 + 1) (m_nodes + 1)))) 91 [some (vR 80), some (vz (m_nodes + 1)), some (vz (ON m_depth)), some (vz (m_nodes + 1 + 1))] [] _
        rw [← eG13]
        refine ab_aload_n d_MO_closeGroup_91 rfl ?_
        refine ab_iload_n d_MO_closeGroup_92 rfl ?_
        refine zz_iconst d_MO_closeGroup_93 ?_
        have ptrI_0 : trI o G13 0 ((m_nodes + 1 + 1) + 1) m_sets ((m_depth - 1) + 1) (m_nodes + 1 + 1) (31 - m_depth) 6 ((x1_, x2_, x3_, x4_, x5_) :: xt_) 2 0 (pin 4 (ON m_depth) + (e1_ + d1_)) SV ((xo_, xr_) :: xs_) mnI mnI (mnG (ON m_depth) (opO ao1_ ro1_)) RL RH m_ranges 0 0 := ⟨(zu K (m_nodes + 1 + 1) 6), (zu O (m_nodes + 1 + 1) (ON m_depth)), (zu (zu Fi (m_nodes + 1 + 1) (-1)) (m_nodes + 1 + 1) (m_nodes + 1)), (zu Be (m_nodes + 1 + 1) (-1)), Le, Mo, (zu Z (m_nodes + 1 + 1) ((Z (m_nodes + 1)) + 0)), LZ, SM, SA, QF, QL, AF, AL, SD, OA, OF, ON, h94, h95, h96, h97, h98, h99, h100, h101, h90, h89, h105, h106, h107, h108, h109, h102, h103, h104, (rgs_zu jk (by omega)), (rgs_zu jo (by omega)), (rgs_zu (rgs_zu jfi (by omega)) (by omega)), (rgs_zu jbe (by omega)), jle, jmo, (rgs_zu jz (by omega)), jlz, jsm, jsa, jqf, jql, jaf, jal, jsd, joa, jof, jon, (by rw [zu_zu, show m_depth - 1 + 1 = m_depth by omega]; exact rtk_group jt (by omega) (ck5 rfl) (by omega) (by omega) (by omega) (by unfold pin; rw [if_pos rfl, if_pos (by omega)]; omega)), (by omega), (fun h => absurd h (by decide)), (fun h => absurd h (by decide)), (fun h => absurd h (by decide)), (fun h => absurd h (by decide)), (fun _ => by rw [zu_self]; decide), (fun h => absurd h (by decide)), jss, jsv⟩
        refine ab_callV (d' := d - 1) (as := [vz (m_nodes + 1 + 1), vz 1]) (st := []) (r := _) (z1_MO_part (o := o) (m_thrown := m_thrown) (m_taped := m_taped) (m_length := m_length) (m_out := m_out) (m_wide := m_wide) (m_gathered := m_gathered) (m_sets := m_sets) (m_ranges := m_ranges) (m_nodes := ((m_nodes + 1 + 1) + 1)) (m_at := m_at) (m_flags := (OF m_depth)) (m_fault := m_fault) (m_place := m_place) (m_numbered := m_numbered) (m_depth := (m_depth - 1)) (m_value := m_value) (m_isNot := m_isNot) (m_least0 := m_least0) (m_most0 := m_most0) (m_slot := m_slot) (m_work := m_work) (m_got := m_got) (m_rowMany := m_rowMany) (m_charAt := m_charAt) (m_charWide := m_charWide) (m_trail := m_trail) (m_isMatch := m_isMatch) (m_matchGroups := m_matchGroups) (m_allFrom := m_allFrom) (m_allBefore := m_allBefore) (m_founds := m_founds) (m_pieces := m_pieces) (m_writtenMany := m_writtenMany) (m_templateWide := m_templateWide) (m_tooMuch := m_tooMuch) (x := (m_nodes + 1 + 1)) (dh := (31 - m_depth)) (rp := 2) (ls := 0) (dz := (pin 4 (ON m_depth) + (e1_ + d1_))) (SV := SV) (ro := mnI) (vv := mnI) (dv := (mnG (ON m_depth) (opO ao1_ ro1_))) (a1_ := x1_) (b1_ := x2_) (c1_ := x3_) (d1_ := x4_) (e1_ := x5_) (nu9 := 0) (fo9 := 0) (t1_ := xt_) (ao1_ := xo_) (ro1_ := xr_) (ts1_ := xs_) (RL := RL) (RH := RH) h80 ptrI_0 (by omega) (by omega) (by omega) (by omega)) (fun oc G2 h => by rcases h with ⟨h, _⟩ <;> exact ⟨_, h⟩) (by omega) m_MO_part ml_MO_375 im_MO_part se_MO_part c_MO h80.2.2 (Nat.le_of_ble_eq_true rfl) d_MO_closeGroup_94 rfl ?_
        intro v G14 hq
        rcases hq with ⟨hv, hfk, hlk, hsk, pNtrI_0⟩
        cases hv
        have h80 := hfk.get h80 (by decide)
        have h84 := hfk.get h84 (by decide)
        have h87 := hfk.get h87 (by decide)
        have h88 := hfk.get h88 (by decide)
        have h93 := hfk.get h93 (by decide)
        have h81 := hfk.get h81 (by decide)
        have h82 := hfk.get h82 (by decide)
        have h91 := hfk.get h91 (by decide)
        have h92 := hfk.get h92 (by decide)
        have h110 := hfk.get h110 (by decide)
        have h111 := hfk.get h111 (by decide)
        have ptrI_0 := pNtrI_0
        have hfr := hfr.tr hfk (by decide)
        have hlen := hlk.trans hlen
        have hsl := hsk.trans hsl
        change ab_W _ _ _ G14 97 [some (vR 80), some (vz (m_nodes + 1)), some (vz (ON m_depth)), some (vz (m_nodes + 1 + 1))] [] _
        refine ab_aload_n d_MO_closeGroup_97 rfl ?_
        refine ab_dup d_MO_closeGroup_98 rfl ?_
        refine ab_getf (fs := mof m_thrown m_taped m_length m_out m_wide m_gathered m_sets m_ranges ((m_nodes + 1 + 1) + 1) m_at (OF m_depth) m_fault m_place m_numbered (m_depth - 1) m_value m_isNot m_least0 m_most0 m_slot m_work m_got m_rowMany m_charAt m_charWide m_trail m_isMatch m_matchGroups m_allFrom m_allBefore m_founds m_pieces m_writtenMany m_templateWide m_tooMuch) f_MO_279 d_MO_closeGroup_99 h80.2.2 rfl ?_
        refine zz_iconst d_MO_closeGroup_102 ?_
        refine zz_iadd d_MO_closeGroup_103 ?_
        refine ab_putf (fs := mof m_thrown m_taped m_length m_out m_wide m_gathered m_sets m_ranges ((m_nodes + 1 + 1) + 1) m_at (OF m_depth) m_fault m_place m_numbered (m_depth - 1) m_value m_isNot m_least0 m_most0 m_slot m_work m_got m_rowMany m_charAt m_charWide m_trail m_isMatch m_matchGroups m_allFrom m_allBefore m_founds m_pieces m_writtenMany m_templateWide m_tooMuch) f_MO_279 (Or.inl rfl) d_MO_closeGroup_104 h80.2.2 (Nat.le_of_ble_eq_true rfl) (fun _ => ⟨rfl, rfl⟩) (h80.2.1 (by decide)) ?_
        obtain ⟨G15, eG15⟩ : ∃ z : ab_G, z = List.set G14 80 (ab_ob 12 (mof m_thrown m_taped m_length m_out m_wide m_gathered m_sets m_ranges ((m_nodes + 1 + 1) + 1) (m_at + 1) (OF m_depth) m_fault m_place m_numbered (m_depth - 1) m_value m_isNot m_least0 m_most0 m_slot m_work m_got m_rowMany m_charAt m_charWide m_trail m_isMatch m_matchGroups m_allFrom m_allBefore m_founds m_pieces m_writtenMany m_templateWide m_tooMuch)) := ⟨_, rfl⟩
        have h84 := h84.keep h80 eG15 (by decide)
        have h87 := h87.keep h80 eG15 (by decide)
        have h88 := h88.keep h80 eG15 (by decide)
        have h93 := h93.keep h80 eG15 (by decide)
        have h81 := h81.keep h80 eG15 (by decide)
        have h82 := h82.keep h80 eG15 (by decide)
        have h91 := h91.keep h80 eG15 (by decide)
        have h92 := h92.keep h80 eG15 (by decide)
        have h110 := h110.keep h80 eG15 (by decide)
        have h111 := h111.keep h80 eG15 (by decide)
        have hst := (fx.rf (o := o) (S := [280]) (G := G14)).wr h80 eG15 (List.mem_singleton.mpr rfl)
        have ptrI_0 := trI.fr hst ptrI_0 (by decide) (by decide) (by decide) (by decide) (by decide) (by decide) (by decide) (by decide) (by decide) (by decide) (by decide) (by decide) (by decide) (by decide) (by decide) (by decide) (by decide) (by decide)
        have hlen := (z_len eG15).trans hlen
        have hsl := (z_sl h80 eG15 rfl).trans hsl
        have hfr := hfr.wr h80 eG15 (by decide)
        have h80 := h80.kept eG15
        change ab_W _ _ _ (List.set G14 80 (ab_ob 12 (mof m_thrown m_taped m_length m_out m_wide m_gathered m_sets m_ranges ((m_nodes + 1 + 1) + 1) (m_at + 1) (OF m_depth) m_fault m_place m_numbered (m_depth - 1) m_value m_isNot m_least0 m_most0 m_slot m_work m_got m_rowMany m_charAt m_charWide m_trail m_isMatch m_matchGroups m_allFrom m_allBefore m_founds m_pieces m_writtenMany m_templateWide m_tooMuch))) 107 [some (vR 80), some (vz (m_nodes + 1)), some (vz (ON m_depth)), some (vz (m_nodes + 1 + 1))] [] _
        rw [← eG15]
        refine ab_vret rfl d_MO_closeGroup_107 ?_
        rw [hQ]; exact (Or.inl ⟨_, _, _, _, _, _, _, _, _, _, _, _, _, _, _, _, _, _, _, _, _, _, ((x1_, x2_, x3_, x4_, (x5_ + (pin 4 (ON m_depth) + (e1_ + d1_)))) :: xt_), 1, (pin 4 (ON m_depth) + (e1_ + d1_)), SV, ((xo_, (mnC xr_ (mnG (ON m_depth) (opO ao1_ ro1_)))) :: xs_), xr_, (mnG (ON m_depth) (opO ao1_ ro1_)), na, nl, rfl, hfr, hlen, hsl, h80, h87, h88, h93, h91, h92, h110, h111, ptrI_0, (by omega), (by first | exact jmk | exact rgs_w jmk (by omega)), (by first | exact jrl | exact rgs_w jrl (by omega)), (by first | exact jrh | exact rgs_w jrh (by omega)), (by first | exact jns | exact rgs_w jns (by omega)), (by first | exact jnm | exact rgs_w jnm (by omega)), (by omega), (by exact jnj), (by rw [hxt_, hof_]; exact sb_close (by omega) (by rw [hc7_.1]; omega)), (by rw [hxs_, hc7_.1]; exact ss_close (by omega))⟩)
      · cases hv
        rw [hGe]
        change ab_W _ _ _ G6 80 [some (vR 80), some (vz (m_nodes + 1)), some (vz (ON m_depth)), none] [vj 1000000000000, vz (ON m_depth), vz 6, vR 80] _
        refine ab_callV (d' := d - 1) (as := [vz 6, vz (ON m_depth), vj 1000000000000]) (st := []) (r := _) (z_MO_node (o := o) (m_thrown := m_thrown) (m_taped := m_taped) (m_length := m_length) (m_out := m_out) (m_wide := m_wide) (m_gathered := m_gathered) (m_sets := m_sets) (m_ranges := m_ranges) (m_nodes := (m_nodes + 1 + 1)) (m_at := m_at) (m_flags := (OF m_depth)) (m_fault := m_fault) (m_place := m_place) (m_numbered := m_numbered) (m_depth := (m_depth - 1)) (m_value := m_value) (m_isNot := m_isNot) (m_least0 := m_least0) (m_most0 := m_most0) (m_slot := m_slot) (m_work := m_work) (m_got := m_got) (m_rowMany := m_rowMany) (m_charAt := m_charAt) (m_charWide := m_charWide) (m_trail := m_trail) (m_isMatch := m_isMatch) (m_matchGroups := m_matchGroups) (m_allFrom := m_allFrom) (m_allBefore := m_allBefore) (m_founds := m_founds) (m_pieces := m_pieces) (m_writtenMany := m_writtenMany) (m_templateWide := m_templateWide) (m_tooMuch := m_tooMuch) (K := K) (O := O) (Fi := Fi) (Be := Be) (Z := Z) (k := 6) (w := (ON m_depth)) (zs := 1000000000000) h80 h94 h95 h96 h97 h100 (by omega) (by omega)) (fun oc G2 h => by rcases h with ⟨h, _⟩ <;> exact ⟨_, h⟩) (by omega) m_MO_node ml_MO_269 im_MO_node se_MO_node c_MO h80.2.2 (Nat.le_of_ble_eq_true rfl) d_MO_closeGroup_80 rfl ?_
        intro v G16 hq
        rcases hq with ⟨hv, hfk, hlk, hsk, hN80, hN94, hN95, hN96, hN97, hN100⟩
        cases hv
        have h84 := hfk.get h84 (by decide)
        have h87 := hfk.get h87 (by decide)
        have h88 := hfk.get h88 (by decide)
        have h93 := hfk.get h93 (by decide)
        have h81 := hfk.get h81 (by decide)
        have h82 := hfk.get h82 (by decide)
        have h91 := hfk.get h91 (by decide)
        have h92 := hfk.get h92 (by decide)
        have h110 := hfk.get h110 (by decide)
        have h111 := hfk.get h111 (by decide)
        have h98 := hfk.get h98 (by decide)
        have h99 := hfk.get h99 (by decide)
        have h101 := hfk.get h101 (by decide)
        have h90 := hfk.get h90 (by decide)
        have h89 := hfk.get h89 (by decide)
        have h105 := hfk.get h105 (by decide)
        have h106 := hfk.get h106 (by decide)
        have h107 := hfk.get h107 (by decide)
        have h108 := hfk.get h108 (by decide)
        have h109 := hfk.get h109 (by decide)
        have h102 := hfk.get h102 (by decide)
        have h103 := hfk.get h103 (by decide)
        have h104 := hfk.get h104 (by decide)
        have hfr := hfr.tr hfk (by decide)
        have hlen := hlk.trans hlen
        have hsl := hsk.trans hsl
        have h80 := hN80
        have h94 := hN94
        have h95 := hN95
        have h96 := hN96
        have h97 := hN97
        have h100 := hN100
        change ab_W _ _ _ G16 83 [some (vR 80), some (vz (m_nodes + 1)), some (vz (ON m_depth)), none] [vz (m_nodes + 1 + 1)] _
        refine ab_istore_n d_MO_closeGroup_83 (Nat.le_of_ble_eq_true rfl) (Nat.le_of_ble_eq_true rfl) rfl ?_
        change ab_W _ _ _ G16 84 [some (vR 80), some (vz (m_nodes + 1)), some (vz (ON m_depth)), some (vz (m_nodes + 1 + 1))] [] _
        refine ab_aload_n d_MO_closeGroup_84 rfl ?_
        refine ab_getf (fs := mof m_thrown m_taped m_length m_out m_wide m_gathered m_sets m_ranges ((m_nodes + 1 + 1) + 1) m_at (OF m_depth) m_fault m_place m_numbered (m_depth - 1) m_value m_isNot m_least0 m_most0 m_slot m_work m_got m_rowMany m_charAt m_charWide m_trail m_isMatch m_matchGroups m_allFrom m_allBefore m_founds m_pieces m_writtenMany m_templateWide m_tooMuch) f_MO_56 d_MO_closeGroup_85 h80.2.2 rfl ?_
        refine ab_iload_n d_MO_closeGroup_88 rfl ?_
        refine ab_iload_n d_MO_closeGroup_89 rfl ?_
        refine zz_iast d_MO_closeGroup_90 h96 (by omega) (h96.2.1 (by decide)) ?_
        obtain ⟨G17, eG17⟩ : ∃ z : ab_G, z = List.set G16 96 (za 4200 (zu (zu Fi (m_nodes + 1 + 1) (-1)) (m_nodes + 1 + 1) (m_nodes + 1))) := ⟨_, rfl⟩
        have h80 := h80.keep h96 eG17 (by decide)
        have h84 := h84.keep h96 eG17 (by decide)
        have h87 := h87.keep h96 eG17 (by decide)
        have h88 := h88.keep h96 eG17 (by decide)
        have h93 := h93.keep h96 eG17 (by decide)
        have h81 := h81.keep h96 eG17 (by decide)
        have h82 := h82.keep h96 eG17 (by decide)
        have h91 := h91.keep h96 eG17 (by decide)
        have h92 := h92.keep h96 eG17 (by decide)
        have h110 := h110.keep h96 eG17 (by decide)
        have h111 := h111.keep h96 eG17 (by decide)
        have h94 := h94.keep h96 eG17 (by decide)
        have h95 := h95.keep h96 eG17 (by decide)
        have h97 := h97.keep h96 eG17 (by decide)
        have h98 := h98.keep h96 eG17 (by decide)
        have h99 := h99.keep h96 eG17 (by decide)
        have h100 := h100.keep h96 eG17 (by decide)
        have h101 := h101.keep h96 eG17 (by decide)
        have h90 := h90.keep h96 eG17 (by decide)
        have h89 := h89.keep h96 eG17 (by decide)
        have h105 := h105.keep h96 eG17 (by decide)
        have h106 := h106.keep h96 eG17 (by decide)
        have h107 := h107.keep h96 eG17 (by decide)
        have h108 := h108.keep h96 eG17 (by decide)
        have h109 := h109.keep h96 eG17 (by decide)
        have h102 := h102.keep h96 eG17 (by decide)
        have h103 := h103.keep h96 eG17 (by decide)
        have h104 := h104.keep h96 eG17 (by decide)
        have hlen := (z_len eG17).trans hlen
        have hsl := (z_sl h96 eG17 rfl).trans hsl
        have hfr := hfr.wr h96 eG17 (by decide)
        have h96 := h96.kept eG17
        change ab_W _ _ _ (List.set G16 96 (za 4200 (zu (zu Fi (m_nodes + 1 + 1) (-1)) (m_nodes + 1 + 1) (m_nodes + 1)))) 91 [some (vR 80), some (vz (m_nodes + 1)), some (vz (ON m_depth)), some (vz (m_nodes + 1 + 1))] [] _
        rw [← eG17]
        refine ab_aload_n d_MO_closeGroup_91 rfl ?_
        refine ab_iload_n d_MO_closeGroup_92 rfl ?_
        refine zz_iconst d_MO_closeGroup_93 ?_
        have ptrI_0 : trI o G17 0 ((m_nodes + 1 + 1) + 1) m_sets ((m_depth - 1) + 1) (m_nodes + 1 + 1) (31 - m_depth) 6 ((x1_, x2_, x3_, x4_, x5_) :: xt_) 2 0 (pin 4 (ON m_depth) + (e1_ + d1_)) SV ((xo_, xr_) :: xs_) mnI mnI (mnG (ON m_depth) (opO ao1_ ro1_)) RL RH m_ranges 0 0 := ⟨(zu K (m_nodes + 1 + 1) 6), (zu O (m_nodes + 1 + 1) (ON m_depth)), (zu (zu Fi (m_nodes + 1 + 1) (-1)) (m_nodes + 1 + 1) (m_nodes + 1)), (zu Be (m_nodes + 1 + 1) (-1)), Le, Mo, (zu Z (m_nodes + 1 + 1) 1000000000000), LZ, SM, SA, QF, QL, AF, AL, SD, OA, OF, ON, h94, h95, h96, h97, h98, h99, h100, h101, h90, h89, h105, h106, h107, h108, h109, h102, h103, h104, (rgs_zu jk (by omega)), (rgs_zu jo (by omega)), (rgs_zu (rgs_zu jfi (by omega)) (by omega)), (rgs_zu jbe (by omega)), jle, jmo, (rgs_zu jz (by omega)), jlz, jsm, jsa, jqf, jql, jaf, jal, jsd, joa, jof, jon, (by rw [zu_zu, show m_depth - 1 + 1 = m_depth by omega]; exact rtk_group jt (by omega) (ck5 rfl) (by omega) (by omega) (by omega) (by unfold pin; rw [if_pos rfl, if_pos (by omega)]; omega)), (by omega), (fun h => absurd h (by decide)), (fun h => absurd h (by decide)), (fun h => absurd h (by decide)), (fun h => absurd h (by decide)), (fun _ => by rw [zu_self]; decide), (fun h => absurd h (by decide)), jss, jsv⟩
        refine ab_callV (d' := d - 1) (as := [vz (m_nodes + 1 + 1), vz 1]) (st := []) (r := _) (z1_MO_part (o := o) (m_thrown := m_thrown) (m_taped := m_taped) (m_length := m_length) (m_out := m_out) (m_wide := m_wide) (m_gathered := m_gathered) (m_sets := m_sets) (m_ranges := m_ranges) (m_nodes := ((m_nodes + 1 + 1) + 1)) (m_at := m_at) (m_flags := (OF m_depth)) (m_fault := m_fault) (m_place := m_place) (m_numbered := m_numbered) (m_depth := (m_depth - 1)) (m_value := m_value) (m_isNot := m_isNot) (m_least0 := m_least0) (m_most0 := m_most0) (m_slot := m_slot) (m_work := m_work) (m_got := m_got) (m_rowMany := m_rowMany) (m_charAt := m_charAt) (m_charWide := m_charWide) (m_trail := m_trail) (m_isMatch := m_isMatch) (m_matchGroups := m_matchGroups) (m_allFrom := m_allFrom) (m_allBefore := m_allBefore) (m_founds := m_founds) (m_pieces := m_pieces) (m_writtenMany := m_writtenMany) (m_templateWide := m_templateWide) (m_tooMuch := m_tooMuch) (x := (m_nodes + 1 + 1)) (dh := (31 - m_depth)) (rp := 2) (ls := 0) (dz := (pin 4 (ON m_depth) + (e1_ + d1_))) (SV := SV) (ro := mnI) (vv := mnI) (dv := (mnG (ON m_depth) (opO ao1_ ro1_))) (a1_ := x1_) (b1_ := x2_) (c1_ := x3_) (d1_ := x4_) (e1_ := x5_) (nu9 := 0) (fo9 := 0) (t1_ := xt_) (ao1_ := xo_) (ro1_ := xr_) (ts1_ := xs_) (RL := RL) (RH := RH) h80 ptrI_0 (by omega) (by omega) (by omega) (by omega)) (fun oc G2 h => by rcases h with ⟨h, _⟩ <;> exact ⟨_, h⟩) (by omega) m_MO_part ml_MO_375 im_MO_part se_MO_part c_MO h80.2.2 (Nat.le_of_ble_eq_true rfl) d_MO_closeGroup_94 rfl ?_
        intro v G18 hq
        rcases hq with ⟨hv, hfk, hlk, hsk, pNtrI_0⟩
        cases hv
        have h80 := hfk.get h80 (by decide)
        have h84 := hfk.get h84 (by decide)
        have h87 := hfk.get h87 (by decide)
        have h88 := hfk.get h88 (by decide)
        have h93 := hfk.get h93 (by decide)
        have h81 := hfk.get h81 (by decide)
        have h82 := hfk.get h82 (by decide)
        have h91 := hfk.get h91 (by decide)
        have h92 := hfk.get h92 (by decide)
        have h110 := hfk.get h110 (by decide)
        have h111 := hfk.get h111 (by decide)
        have ptrI_0 := pNtrI_0
        have hfr := hfr.tr hfk (by decide)
        have hlen := hlk.trans hlen
        have hsl := hsk.trans hsl
        change ab_W _ _ _ G18 97 [some (vR 80), some (vz (m_nodes + 1)), some (vz (ON m_depth)), some (vz (m_nodes + 1 + 1))] [] _
        refine ab_aload_n d_MO_closeGroup_97 rfl ?_
        refine ab_dup d_MO_closeGroup_98 rfl ?_
        refine ab_getf (fs := mof m_thrown m_taped m_length m_out m_wide m_gathered m_sets m_ranges ((m_nodes + 1 + 1) + 1) m_at (OF m_depth) m_fault m_place m_numbered (m_depth - 1) m_value m_isNot m_least0 m_most0 m_slot m_work m_got m_rowMany m_charAt m_charWide m_trail m_isMatch m_matchGroups m_allFrom m_allBefore m_founds m_pieces m_writtenMany m_templateWide m_tooMuch) f_MO_279 d_MO_closeGroup_99 h80.2.2 rfl ?_
        refine zz_iconst d_MO_closeGroup_102 ?_
        refine zz_iadd d_MO_closeGroup_103 ?_
        refine ab_putf (fs := mof m_thrown m_taped m_length m_out m_wide m_gathered m_sets m_ranges ((m_nodes + 1 + 1) + 1) m_at (OF m_depth) m_fault m_place m_numbered (m_depth - 1) m_value m_isNot m_least0 m_most0 m_slot m_work m_got m_rowMany m_charAt m_charWide m_trail m_isMatch m_matchGroups m_allFrom m_allBefore m_founds m_pieces m_writtenMany m_templateWide m_tooMuch) f_MO_279 (Or.inl rfl) d_MO_closeGroup_104 h80.2.2 (Nat.le_of_ble_eq_true rfl) (fun _ => ⟨rfl, rfl⟩) (h80.2.1 (by decide)) ?_
        obtain ⟨G19, eG19⟩ : ∃ z : ab_G, z = List.set G18 80 (ab_ob 12 (mof m_thrown m_taped m_length m_out m_wide m_gathered m_sets m_ranges ((m_nodes + 1 + 1) + 1) (m_at + 1) (OF m_depth) m_fault m_place m_numbered (m_depth - 1) m_value m_isNot m_least0 m_most0 m_slot m_work m_got m_rowMany m_charAt m_charWide m_trail m_isMatch m_matchGroups m_allFrom m_allBefore m_founds m_pieces m_writtenMany m_templateWide m_tooMuch)) := ⟨_, rfl⟩
        have h84 := h84.keep h80 eG19 (by decide)
        have h87 := h87.keep h80 eG19 (by decide)
        have h88 := h88.keep h80 eG19 (by decide)
        have h93 := h93.keep h80 eG19 (by decide)
        have h81 := h81.keep h80 eG19 (by decide)
        have h82 := h82.keep h80 eG19 (by decide)
        have h91 := h91.keep h80 eG19 (by decide)
        have h92 := h92.keep h80 eG19 (by decide)
        have h110 := h110.keep h80 eG19 (by decide)
        have h111 := h111.keep h80 eG19 (by decide)
        have hst := (fx.rf (o := o) (S := [280]) (G := G18)).wr h80 eG19 (List.mem_singleton.mpr rfl)
        have ptrI_0 := trI.fr hst ptrI_0 (by decide) (by decide) (by decide) (by decide) (by decide) (by decide) (by decide) (by decide) (by decide) (by decide) (by decide) (by decide) (by decide) (by decide) (by decide) (by decide) (by decide) (by decide)
        have hlen := (z_len eG19).trans hlen
        have hsl := (z_sl h80 eG19 rfl).trans hsl
        have hfr := hfr.wr h80 eG19 (by decide)
        have h80 := h80.kept eG19
        change ab_W _ _ _ (List.set G18 80 (ab_ob 12 (mof m_thrown m_taped m_length m_out m_wide m_gathered m_sets m_ranges ((m_nodes + 1 + 1) + 1) (m_at + 1) (OF m_depth) m_fault m_place m_numbered (m_depth - 1) m_value m_isNot m_least0 m_most0 m_slot m_work m_got m_rowMany m_charAt m_charWide m_trail m_isMatch m_matchGroups m_allFrom m_allBefore m_founds m_pieces m_writtenMany m_templateWide m_tooMuch))) 107 [some (vR 80), some (vz (m_nodes + 1)), some (vz (ON m_depth)), some (vz (m_nodes + 1 + 1))] [] _
        rw [← eG19]
        refine ab_vret rfl d_MO_closeGroup_107 ?_
        rw [hQ]; exact (Or.inl ⟨_, _, _, _, _, _, _, _, _, _, _, _, _, _, _, _, _, _, _, _, _, _, ((x1_, x2_, x3_, x4_, (x5_ + (pin 4 (ON m_depth) + (e1_ + d1_)))) :: xt_), 1, (pin 4 (ON m_depth) + (e1_ + d1_)), SV, ((xo_, (mnC xr_ (mnG (ON m_depth) (opO ao1_ ro1_)))) :: xs_), xr_, (mnG (ON m_depth) (opO ao1_ ro1_)), na, nl, rfl, hfr, hlen, hsl, h80, h87, h88, h93, h91, h92, h110, h111, ptrI_0, (by omega), (by first | exact jmk | exact rgs_w jmk (by omega)), (by first | exact jrl | exact rgs_w jrl (by omega)), (by first | exact jrh | exact rgs_w jrh (by omega)), (by first | exact jns | exact rgs_w jns (by omega)), (by first | exact jnm | exact rgs_w jnm (by omega)), (by omega), (by exact jnj), (by rw [hxt_, hof_]; exact sb_close (by omega) (by rw [hc7_.1]; omega)), (by rw [hxs_, hc7_.1]; exact ss_close (by omega))⟩)
    · refine zz_ldc2 2 d_MO_closeGroup_69 cn_MO_401 ?_
      refine ab_goto (tgt := 76) d_MO_closeGroup_72 (by decide) ?_
      refine zz_ladd d_MO_closeGroup_76 ?_
      refine ab_callS (d' := d - 1) (as := [vj ((Z (m_nodes + 1)) + 2)]) (st := [vz (ON m_depth), vz 6, vR 80]) (z_MO_atMost (o := o) (x := ((Z (m_nodes + 1)) + 2)) (by omega)) (fun oc G2 h => by rcases h with ⟨h, _⟩ | ⟨h, _⟩ <;> exact ⟨_, h⟩) (by omega) m_MO_atMost ml_MO_288 st_MO_atMost (Nat.le_of_ble_eq_true rfl) d_MO_closeGroup_77 rfl ?_
      intro v G20 hq
      rcases hq with ⟨hv, hGe, hq21⟩ | ⟨hv, hGe, hq22⟩
      · cases hv
        rw [hGe]
        change ab_W _ _ _ G6 80 [some (vR 80), some (vz (m_nodes + 1)), some (vz (ON m_depth)), none] [vj ((Z (m_nodes + 1)) + 2), vz (ON m_depth), vz 6, vR 80] _
        refine ab_callV (d' := d - 1) (as := [vz 6, vz (ON m_depth), vj ((Z (m_nodes + 1)) + 2)]) (st := []) (r := _) (z_MO_node (o := o) (m_thrown := m_thrown) (m_taped := m_taped) (m_length := m_length) (m_out := m_out) (m_wide := m_wide) (m_gathered := m_gathered) (m_sets := m_sets) (m_ranges := m_ranges) (m_nodes := (m_nodes + 1 + 1)) (m_at := m_at) (m_flags := (OF m_depth)) (m_fault := m_fault) (m_place := m_place) (m_numbered := m_numbered) (m_depth := (m_depth - 1)) (m_value := m_value) (m_isNot := m_isNot) (m_least0 := m_least0) (m_most0 := m_most0) (m_slot := m_slot) (m_work := m_work) (m_got := m_got) (m_rowMany := m_rowMany) (m_charAt := m_charAt) (m_charWide := m_charWide) (m_trail := m_trail) (m_isMatch := m_isMatch) (m_matchGroups := m_matchGroups) (m_allFrom := m_allFrom) (m_allBefore := m_allBefore) (m_founds := m_founds) (m_pieces := m_pieces) (m_writtenMany := m_writtenMany) (m_templateWide := m_templateWide) (m_tooMuch := m_tooMuch) (K := K) (O := O) (Fi := Fi) (Be := Be) (Z := Z) (k := 6) (w := (ON m_depth)) (zs := ((Z (m_nodes + 1)) + 2)) h80 h94 h95 h96 h97 h100 (by omega) (by omega)) (fun oc G2 h => by rcases h with ⟨h, _⟩ <;> exact ⟨_, h⟩) (by omega) m_MO_node ml_MO_269 im_MO_node se_MO_node c_MO h80.2.2 (Nat.le_of_ble_eq_true rfl) d_MO_closeGroup_80 rfl ?_
        intro v G23 hq
        rcases hq with ⟨hv, hfk, hlk, hsk, hN80, hN94, hN95, hN96, hN97, hN100⟩
        cases hv
        have h84 := hfk.get h84 (by decide)
        have h87 := hfk.get h87 (by decide)
        have h88 := hfk.get h88 (by decide)
        have h93 := hfk.get h93 (by decide)
        have h81 := hfk.get h81 (by decide)
        have h82 := hfk.get h82 (by decide)
        have h91 := hfk.get h91 (by decide)
        have h92 := hfk.get h92 (by decide)
        have h110 := hfk.get h110 (by decide)
        have h111 := hfk.get h111 (by decide)
        have h98 := hfk.get h98 (by decide)
        have h99 := hfk.get h99 (by decide)
        have h101 := hfk.get h101 (by decide)
        have h90 := hfk.get h90 (by decide)
        have h89 := hfk.get h89 (by decide)
        have h105 := hfk.get h105 (by decide)
        have h106 := hfk.get h106 (by decide)
        have h107 := hfk.get h107 (by decide)
        have h108 := hfk.get h108 (by decide)
        have h109 := hfk.get h109 (by decide)
        have h102 := hfk.get h102 (by decide)
        have h103 := hfk.get h103 (by decide)
        have h104 := hfk.get h104 (by decide)
        have hfr := hfr.tr hfk (by decide)
        have hlen := hlk.trans hlen
        have hsl := hsk.trans hsl
        have h80 := hN80
        have h94 := hN94
        have h95 := hN95
        have h96 := hN96
        have h97 := hN97
        have h100 := hN100
        change ab_W _ _ _ G23 83 [some (vR 80), some (vz (m_nodes + 1)), some (vz (ON m_depth)), none] [vz (m_nodes + 1 + 1)] _
        refine ab_istore_n d_MO_closeGroup_83 (Nat.le_of_ble_eq_true rfl) (Nat.le_of_ble_eq_true rfl) rfl ?_
        change ab_W _ _ _ G23 84 [some (vR 80), some (vz (m_nodes + 1)), some (vz (ON m_depth)), some (vz (m_nodes + 1 + 1))] [] _
        refine ab_aload_n d_MO_closeGroup_84 rfl ?_
        refine ab_getf (fs := mof m_thrown m_taped m_length m_out m_wide m_gathered m_sets m_ranges ((m_nodes + 1 + 1) + 1) m_at (OF m_depth) m_fault m_place m_numbered (m_depth - 1) m_value m_isNot m_least0 m_most0 m_slot m_work m_got m_rowMany m_charAt m_charWide m_trail m_isMatch m_matchGroups m_allFrom m_allBefore m_founds m_pieces m_writtenMany m_templateWide m_tooMuch) f_MO_56 d_MO_closeGroup_85 h80.2.2 rfl ?_
        refine ab_iload_n d_MO_closeGroup_88 rfl ?_
        refine ab_iload_n d_MO_closeGroup_89 rfl ?_
        refine zz_iast d_MO_closeGroup_90 h96 (by omega) (h96.2.1 (by decide)) ?_
        obtain ⟨G24, eG24⟩ : ∃ z : ab_G, z = List.set G23 96 (za 4200 (zu (zu Fi (m_nodes + 1 + 1) (-1)) (m_nodes + 1 + 1) (m_nodes + 1))) := ⟨_, rfl⟩
        have h80 := h80.keep h96 eG24 (by decide)
        have h84 := h84.keep h96 eG24 (by decide)
        have h87 := h87.keep h96 eG24 (by decide)
        have h88 := h88.keep h96 eG24 (by decide)
        have h93 := h93.keep h96 eG24 (by decide)
        have h81 := h81.keep h96 eG24 (by decide)
        have h82 := h82.keep h96 eG24 (by decide)
        have h91 := h91.keep h96 eG24 (by decide)
        have h92 := h92.keep h96 eG24 (by decide)
        have h110 := h110.keep h96 eG24 (by decide)
        have h111 := h111.keep h96 eG24 (by decide)
        have h94 := h94.keep h96 eG24 (by decide)
        have h95 := h95.keep h96 eG24 (by decide)
        have h97 := h97.keep h96 eG24 (by decide)
        have h98 := h98.keep h96 eG24 (by decide)
        have h99 := h99.keep h96 eG24 (by decide)
        have h100 := h100.keep h96 eG24 (by decide)
        have h101 := h101.keep h96 eG24 (by decide)
        have h90 := h90.keep h96 eG24 (by decide)
        have h89 := h89.keep h96 eG24 (by decide)
        have h105 := h105.keep h96 eG24 (by decide)
        have h106 := h106.keep h96 eG24 (by decide)
        have h107 := h107.keep h96 eG24 (by decide)
        have h108 := h108.keep h96 eG24 (by decide)
        have h109 := h109.keep h96 eG24 (by decide)
        have h102 := h102.keep h96 eG24 (by decide)
        have h103 := h103.keep h96 eG24 (by decide)
        have h104 := h104.keep h96 eG24 (by decide)
        have hlen := (z_len eG24).trans hlen
        have hsl := (z_sl h96 eG24 rfl).trans hsl
        have hfr := hfr.wr h96 eG24 (by decide)
        have h96 := h96.kept eG24
        change ab_W _ _ _ (List.set G23 96 (za 4200 (zu (zu Fi (m_nodes + 1 + 1) (-1)) (m_nodes + 1 + 1) (m_nodes + 1)))) 91 [some (vR 80), some (vz (m_nodes + 1)), some (vz (ON m_depth)), some (vz (m_nodes + 1 + 1))] [] _
        rw [← eG24]
        refine ab_aload_n d_MO_closeGroup_91 rfl ?_
        refine ab_iload_n d_MO_closeGroup_92 rfl ?_
        refine zz_iconst d_MO_closeGroup_93 ?_
        have ptrI_0 : trI o G24 0 ((m_nodes + 1 + 1) + 1) m_sets ((m_depth - 1) + 1) (m_nodes + 1 + 1) (31 - m_depth) 6 ((x1_, x2_, x3_, x4_, x5_) :: xt_) 2 0 (pin 4 (ON m_depth) + (e1_ + d1_)) SV ((xo_, xr_) :: xs_) mnI mnI (mnG (ON m_depth) (opO ao1_ ro1_)) RL RH m_ranges 0 0 := ⟨(zu K (m_nodes + 1 + 1) 6), (zu O (m_nodes + 1 + 1) (ON m_depth)), (zu (zu Fi (m_nodes + 1 + 1) (-1)) (m_nodes + 1 + 1) (m_nodes + 1)), (zu Be (m_nodes + 1 + 1) (-1)), Le, Mo, (zu Z (m_nodes + 1 + 1) ((Z (m_nodes + 1)) + 2)), LZ, SM, SA, QF, QL, AF, AL, SD, OA, OF, ON, h94, h95, h96, h97, h98, h99, h100, h101, h90, h89, h105, h106, h107, h108, h109, h102, h103, h104, (rgs_zu jk (by omega)), (rgs_zu jo (by omega)), (rgs_zu (rgs_zu jfi (by omega)) (by omega)), (rgs_zu jbe (by omega)), jle, jmo, (rgs_zu jz (by omega)), jlz, jsm, jsa, jqf, jql, jaf, jal, jsd, joa, jof, jon, (by rw [zu_zu, show m_depth - 1 + 1 = m_depth by omega]; exact rtk_group jt (by omega) (ck5 rfl) (by omega) (by omega) (by omega) (by unfold pin; rw [if_pos rfl, if_neg (by omega)]; omega)), (by omega), (fun h => absurd h (by decide)), (fun h => absurd h (by decide)), (fun h => absurd h (by decide)), (fun h => absurd h (by decide)), (fun _ => by rw [zu_self]; decide), (fun h => absurd h (by decide)), jss, jsv⟩
        refine ab_callV (d' := d - 1) (as := [vz (m_nodes + 1 + 1), vz 1]) (st := []) (r := _) (z1_MO_part (o := o) (m_thrown := m_thrown) (m_taped := m_taped) (m_length := m_length) (m_out := m_out) (m_wide := m_wide) (m_gathered := m_gathered) (m_sets := m_sets) (m_ranges := m_ranges) (m_nodes := ((m_nodes + 1 + 1) + 1)) (m_at := m_at) (m_flags := (OF m_depth)) (m_fault := m_fault) (m_place := m_place) (m_numbered := m_numbered) (m_depth := (m_depth - 1)) (m_value := m_value) (m_isNot := m_isNot) (m_least0 := m_least0) (m_most0 := m_most0) (m_slot := m_slot) (m_work := m_work) (m_got := m_got) (m_rowMany := m_rowMany) (m_charAt := m_charAt) (m_charWide := m_charWide) (m_trail := m_trail) (m_isMatch := m_isMatch) (m_matchGroups := m_matchGroups) (m_allFrom := m_allFrom) (m_allBefore := m_allBefore) (m_founds := m_founds) (m_pieces := m_pieces) (m_writtenMany := m_writtenMany) (m_templateWide := m_templateWide) (m_tooMuch := m_tooMuch) (x := (m_nodes + 1 + 1)) (dh := (31 - m_depth)) (rp := 2) (ls := 0) (dz := (pin 4 (ON m_depth) + (e1_ + d1_))) (SV := SV) (ro := mnI) (vv := mnI) (dv := (mnG (ON m_depth) (opO ao1_ ro1_))) (a1_ := x1_) (b1_ := x2_) (c1_ := x3_) (d1_ := x4_) (e1_ := x5_) (nu9 := 0) (fo9 := 0) (t1_ := xt_) (ao1_ := xo_) (ro1_ := xr_) (ts1_ := xs_) (RL := RL) (RH := RH) h80 ptrI_0 (by omega) (by omega) (by omega) (by omega)) (fun oc G2 h => by rcases h with ⟨h, _⟩ <;> exact ⟨_, h⟩) (by omega) m_MO_part ml_MO_375 im_MO_part se_MO_part c_MO h80.2.2 (Nat.le_of_ble_eq_true rfl) d_MO_closeGroup_94 rfl ?_
        intro v G25 hq
        rcases hq with ⟨hv, hfk, hlk, hsk, pNtrI_0⟩
        cases hv
        have h80 := hfk.get h80 (by decide)
        have h84 := hfk.get h84 (by decide)
        have h87 := hfk.get h87 (by decide)
        have h88 := hfk.get h88 (by decide)
        have h93 := hfk.get h93 (by decide)
        have h81 := hfk.get h81 (by decide)
        have h82 := hfk.get h82 (by decide)
        have h91 := hfk.get h91 (by decide)
        have h92 := hfk.get h92 (by decide)
        have h110 := hfk.get h110 (by decide)
        have h111 := hfk.get h111 (by decide)
        have ptrI_0 := pNtrI_0
        have hfr := hfr.tr hfk (by decide)
        have hlen := hlk.trans hlen
        have hsl := hsk.trans hsl
        change ab_W _ _ _ G25 97 [some (vR 80), some (vz (m_nodes + 1)), some (vz (ON m_depth)), some (vz (m_nodes + 1 + 1))] [] _
        refine ab_aload_n d_MO_closeGroup_97 rfl ?_
        refine ab_dup d_MO_closeGroup_98 rfl ?_
        refine ab_getf (fs := mof m_thrown m_taped m_length m_out m_wide m_gathered m_sets m_ranges ((m_nodes + 1 + 1) + 1) m_at (OF m_depth) m_fault m_place m_numbered (m_depth - 1) m_value m_isNot m_least0 m_most0 m_slot m_work m_got m_rowMany m_charAt m_charWide m_trail m_isMatch m_matchGroups m_allFrom m_allBefore m_founds m_pieces m_writtenMany m_templateWide m_tooMuch) f_MO_279 d_MO_closeGroup_99 h80.2.2 rfl ?_
        refine zz_iconst d_MO_closeGroup_102 ?_
        refine zz_iadd d_MO_closeGroup_103 ?_
        refine ab_putf (fs := mof m_thrown m_taped m_length m_out m_wide m_gathered m_sets m_ranges ((m_nodes + 1 + 1) + 1) m_at (OF m_depth) m_fault m_place m_numbered (m_depth - 1) m_value m_isNot m_least0 m_most0 m_slot m_work m_got m_rowMany m_charAt m_charWide m_trail m_isMatch m_matchGroups m_allFrom m_allBefore m_founds m_pieces m_writtenMany m_templateWide m_tooMuch) f_MO_279 (Or.inl rfl) d_MO_closeGroup_104 h80.2.2 (Nat.le_of_ble_eq_true rfl) (fun _ => ⟨rfl, rfl⟩) (h80.2.1 (by decide)) ?_
        obtain ⟨G26, eG26⟩ : ∃ z : ab_G, z = List.set G25 80 (ab_ob 12 (mof m_thrown m_taped m_length m_out m_wide m_gathered m_sets m_ranges ((m_nodes + 1 + 1) + 1) (m_at + 1) (OF m_depth) m_fault m_place m_numbered (m_depth - 1) m_value m_isNot m_least0 m_most0 m_slot m_work m_got m_rowMany m_charAt m_charWide m_trail m_isMatch m_matchGroups m_allFrom m_allBefore m_founds m_pieces m_writtenMany m_templateWide m_tooMuch)) := ⟨_, rfl⟩
        have h84 := h84.keep h80 eG26 (by decide)
        have h87 := h87.keep h80 eG26 (by decide)
        have h88 := h88.keep h80 eG26 (by decide)
        have h93 := h93.keep h80 eG26 (by decide)
        have h81 := h81.keep h80 eG26 (by decide)
        have h82 := h82.keep h80 eG26 (by decide)
        have h91 := h91.keep h80 eG26 (by decide)
        have h92 := h92.keep h80 eG26 (by decide)
        have h110 := h110.keep h80 eG26 (by decide)
        have h111 := h111.keep h80 eG26 (by decide)
        have hst := (fx.rf (o := o) (S := [280]) (G := G25)).wr h80 eG26 (List.mem_singleton.mpr rfl)
        have ptrI_0 := trI.fr hst ptrI_0 (by decide) (by decide) (by decide) (by decide) (by decide) (by decide) (by decide) (by decide) (by decide) (by decide) (by decide) (by decide) (by decide) (by decide) (by decide) (by decide) (by decide) (by decide)
        have hlen := (z_len eG26).trans hlen
        have hsl := (z_sl h80 eG26 rfl).trans hsl
        have hfr := hfr.wr h80 eG26 (by decide)
        have h80 := h80.kept eG26
        change ab_W _ _ _ (List.set G25 80 (ab_ob 12 (mof m_thrown m_taped m_length m_out m_wide m_gathered m_sets m_ranges ((m_nodes + 1 + 1) + 1) (m_at + 1) (OF m_depth) m_fault m_place m_numbered (m_depth - 1) m_value m_isNot m_least0 m_most0 m_slot m_work m_got m_rowMany m_charAt m_charWide m_trail m_isMatch m_matchGroups m_allFrom m_allBefore m_founds m_pieces m_writtenMany m_templateWide m_tooMuch))) 107 [some (vR 80), some (vz (m_nodes + 1)), some (vz (ON m_depth)), some (vz (m_nodes + 1 + 1))] [] _
        rw [← eG26]
        refine ab_vret rfl d_MO_closeGroup_107 ?_
        rw [hQ]; exact (Or.inl ⟨_, _, _, _, _, _, _, _, _, _, _, _, _, _, _, _, _, _, _, _, _, _, ((x1_, x2_, x3_, x4_, (x5_ + (pin 4 (ON m_depth) + (e1_ + d1_)))) :: xt_), 1, (pin 4 (ON m_depth) + (e1_ + d1_)), SV, ((xo_, (mnC xr_ (mnG (ON m_depth) (opO ao1_ ro1_)))) :: xs_), xr_, (mnG (ON m_depth) (opO ao1_ ro1_)), na, nl, rfl, hfr, hlen, hsl, h80, h87, h88, h93, h91, h92, h110, h111, ptrI_0, (by omega), (by first | exact jmk | exact rgs_w jmk (by omega)), (by first | exact jrl | exact rgs_w jrl (by omega)), (by first | exact jrh | exact rgs_w jrh (by omega)), (by first | exact jns | exact rgs_w jns (by omega)), (by first | exact jnm | exact rgs_w jnm (by omega)), (by omega), (by exact jnj), (by rw [hxt_, hof_]; exact sb_close (by omega) (by rw [hc7_.1]; omega)), (by rw [hxs_, hc7_.1]; exact ss_close (by omega))⟩)
      · cases hv
        rw [hGe]
        change ab_W _ _ _ G6 80 [some (vR 80), some (vz (m_nodes + 1)), some (vz (ON m_depth)), none] [vj 1000000000000, vz (ON m_depth), vz 6, vR 80] _
        refine ab_callV (d' := d - 1) (as := [vz 6, vz (ON m_depth), vj 1000000000000]) (st := []) (r := _) (z_MO_node (o := o) (m_thrown := m_thrown) (m_taped := m_taped) (m_length := m_length) (m_out := m_out) (m_wide := m_wide) (m_gathered := m_gathered) (m_sets := m_sets) (m_ranges := m_ranges) (m_nodes := (m_nodes + 1 + 1)) (m_at := m_at) (m_flags := (OF m_depth)) (m_fault := m_fault) (m_place := m_place) (m_numbered := m_numbered) (m_depth := (m_depth - 1)) (m_value := m_value) (m_isNot := m_isNot) (m_least0 := m_least0) (m_most0 := m_most0) (m_slot := m_slot) (m_work := m_work) (m_got := m_got) (m_rowMany := m_rowMany) (m_charAt := m_charAt) (m_charWide := m_charWide) (m_trail := m_trail) (m_isMatch := m_isMatch) (m_matchGroups := m_matchGroups) (m_allFrom := m_allFrom) (m_allBefore := m_allBefore) (m_founds := m_founds) (m_pieces := m_pieces) (m_writtenMany := m_writtenMany) (m_templateWide := m_templateWide) (m_tooMuch := m_tooMuch) (K := K) (O := O) (Fi := Fi) (Be := Be) (Z := Z) (k := 6) (w := (ON m_depth)) (zs := 1000000000000) h80 h94 h95 h96 h97 h100 (by omega) (by omega)) (fun oc G2 h => by rcases h with ⟨h, _⟩ <;> exact ⟨_, h⟩) (by omega) m_MO_node ml_MO_269 im_MO_node se_MO_node c_MO h80.2.2 (Nat.le_of_ble_eq_true rfl) d_MO_closeGroup_80 rfl ?_
        intro v G27 hq
        rcases hq with ⟨hv, hfk, hlk, hsk, hN80, hN94, hN95, hN96, hN97, hN100⟩
        cases hv
        have h84 := hfk.get h84 (by decide)
        have h87 := hfk.get h87 (by decide)
        have h88 := hfk.get h88 (by decide)
        have h93 := hfk.get h93 (by decide)
        have h81 := hfk.get h81 (by decide)
        have h82 := hfk.get h82 (by decide)
        have h91 := hfk.get h91 (by decide)
        have h92 := hfk.get h92 (by decide)
        have h110 := hfk.get h110 (by decide)
        have h111 := hfk.get h111 (by decide)
        have h98 := hfk.get h98 (by decide)
        have h99 := hfk.get h99 (by decide)
        have h101 := hfk.get h101 (by decide)
        have h90 := hfk.get h90 (by decide)
        have h89 := hfk.get h89 (by decide)
        have h105 := hfk.get h105 (by decide)
        have h106 := hfk.get h106 (by decide)
        have h107 := hfk.get h107 (by decide)
        have h108 := hfk.get h108 (by decide)
        have h109 := hfk.get h109 (by decide)
        have h102 := hfk.get h102 (by decide)
        have h103 := hfk.get h103 (by decide)
        have h104 := hfk.get h104 (by decide)
        have hfr := hfr.tr hfk (by decide)
        have hlen := hlk.trans hlen
        have hsl := hsk.trans hsl
        have h80 := hN80
        have h94 := hN94
        have h95 := hN95
        have h96 := hN96
        have h97 := hN97
        have h100 := hN100
        change ab_W _ _ _ G27 83 [some (vR 80), some (vz (m_nodes + 1)), some (vz (ON m_depth)), none] [vz (m_nodes + 1 + 1)] _
        refine ab_istore_n d_MO_closeGroup_83 (Nat.le_of_ble_eq_true rfl) (Nat.le_of_ble_eq_true rfl) rfl ?_
        change ab_W _ _ _ G27 84 [some (vR 80), some (vz (m_nodes + 1)), some (vz (ON m_depth)), some (vz (m_nodes + 1 + 1))] [] _
        refine ab_aload_n d_MO_closeGroup_84 rfl ?_
        refine ab_getf (fs := mof m_thrown m_taped m_length m_out m_wide m_gathered m_sets m_ranges ((m_nodes + 1 + 1) + 1) m_at (OF m_depth) m_fault m_place m_numbered (m_depth - 1) m_value m_isNot m_least0 m_most0 m_slot m_work m_got m_rowMany m_charAt m_charWide m_trail m_isMatch m_matchGroups m_allFrom m_allBefore m_founds m_pieces m_writtenMany m_templateWide m_tooMuch) f_MO_56 d_MO_closeGroup_85 h80.2.2 rfl ?_
        refine ab_iload_n d_MO_closeGroup_88 rfl ?_
        refine ab_iload_n d_MO_closeGroup_89 rfl ?_
        refine zz_iast d_MO_closeGroup_90 h96 (by omega) (h96.2.1 (by decide)) ?_
        obtain ⟨G28, eG28⟩ : ∃ z : ab_G, z = List.set G27 96 (za 4200 (zu (zu Fi (m_nodes + 1 + 1) (-1)) (m_nodes + 1 + 1) (m_nodes + 1))) := ⟨_, rfl⟩
        have h80 := h80.keep h96 eG28 (by decide)
        have h84 := h84.keep h96 eG28 (by decide)
        have h87 := h87.keep h96 eG28 (by decide)
        have h88 := h88.keep h96 eG28 (by decide)
        have h93 := h93.keep h96 eG28 (by decide)
        have h81 := h81.keep h96 eG28 (by decide)
        have h82 := h82.keep h96 eG28 (by decide)
        have h91 := h91.keep h96 eG28 (by decide)
        have h92 := h92.keep h96 eG28 (by decide)
        have h110 := h110.keep h96 eG28 (by decide)
        have h111 := h111.keep h96 eG28 (by decide)
        have h94 := h94.keep h96 eG28 (by decide)
        have h95 := h95.keep h96 eG28 (by decide)
        have h97 := h97.keep h96 eG28 (by decide)
        have h98 := h98.keep h96 eG28 (by decide)
        have h99 := h99.keep h96 eG28 (by decide)
        have h100 := h100.keep h96 eG28 (by decide)
        have h101 := h101.keep h96 eG28 (by decide)
        have h90 := h90.keep h96 eG28 (by decide)
        have h89 := h89.keep h96 eG28 (by decide)
        have h105 := h105.keep h96 eG28 (by decide)
        have h106 := h106.keep h96 eG28 (by decide)
        have h107 := h107.keep h96 eG28 (by decide)
        have h108 := h108.keep h96 eG28 (by decide)
        have h109 := h109.keep h96 eG28 (by decide)
        have h102 := h102.keep h96 eG28 (by decide)
        have h103 := h103.keep h96 eG28 (by decide)
        have h104 := h104.keep h96 eG28 (by decide)
        have hlen := (z_len eG28).trans hlen
        have hsl := (z_sl h96 eG28 rfl).trans hsl
        have hfr := hfr.wr h96 eG28 (by decide)
        have h96 := h96.kept eG28
        change ab_W _ _ _ (List.set G27 96 (za 4200 (zu (zu Fi (m_nodes + 1 + 1) (-1)) (m_nodes + 1 + 1) (m_nodes + 1)))) 91 [some (vR 80), some (vz (m_nodes + 1)), some (vz (ON m_depth)), some (vz (m_nodes + 1 + 1))] [] _
        rw [← eG28]
        refine ab_aload_n d_MO_closeGroup_91 rfl ?_
        refine ab_iload_n d_MO_closeGroup_92 rfl ?_
        refine zz_iconst d_MO_closeGroup_93 ?_
        have ptrI_0 : trI o G28 0 ((m_nodes + 1 + 1) + 1) m_sets ((m_depth - 1) + 1) (m_nodes + 1 + 1) (31 - m_depth) 6 ((x1_, x2_, x3_, x4_, x5_) :: xt_) 2 0 (pin 4 (ON m_depth) + (e1_ + d1_)) SV ((xo_, xr_) :: xs_) mnI mnI (mnG (ON m_depth) (opO ao1_ ro1_)) RL RH m_ranges 0 0 := ⟨(zu K (m_nodes + 1 + 1) 6), (zu O (m_nodes + 1 + 1) (ON m_depth)), (zu (zu Fi (m_nodes + 1 + 1) (-1)) (m_nodes + 1 + 1) (m_nodes + 1)), (zu Be (m_nodes + 1 + 1) (-1)), Le, Mo, (zu Z (m_nodes + 1 + 1) 1000000000000), LZ, SM, SA, QF, QL, AF, AL, SD, OA, OF, ON, h94, h95, h96, h97, h98, h99, h100, h101, h90, h89, h105, h106, h107, h108, h109, h102, h103, h104, (rgs_zu jk (by omega)), (rgs_zu jo (by omega)), (rgs_zu (rgs_zu jfi (by omega)) (by omega)), (rgs_zu jbe (by omega)), jle, jmo, (rgs_zu jz (by omega)), jlz, jsm, jsa, jqf, jql, jaf, jal, jsd, joa, jof, jon, (by rw [zu_zu, show m_depth - 1 + 1 = m_depth by omega]; exact rtk_group jt (by omega) (ck5 rfl) (by omega) (by omega) (by omega) (by unfold pin; rw [if_pos rfl, if_neg (by omega)]; omega)), (by omega), (fun h => absurd h (by decide)), (fun h => absurd h (by decide)), (fun h => absurd h (by decide)), (fun h => absurd h (by decide)), (fun _ => by rw [zu_self]; decide), (fun h => absurd h (by decide)), jss, jsv⟩
        refine ab_callV (d' := d - 1) (as := [vz (m_nodes + 1 + 1), vz 1]) (st := []) (r := _) (z1_MO_part (o := o) (m_thrown := m_thrown) (m_taped := m_taped) (m_length := m_length) (m_out := m_out) (m_wide := m_wide) (m_gathered := m_gathered) (m_sets := m_sets) (m_ranges := m_ranges) (m_nodes := ((m_nodes + 1 + 1) + 1)) (m_at := m_at) (m_flags := (OF m_depth)) (m_fault := m_fault) (m_place := m_place) (m_numbered := m_numbered) (m_depth := (m_depth - 1)) (m_value := m_value) (m_isNot := m_isNot) (m_least0 := m_least0) (m_most0 := m_most0) (m_slot := m_slot) (m_work := m_work) (m_got := m_got) (m_rowMany := m_rowMany) (m_charAt := m_charAt) (m_charWide := m_charWide) (m_trail := m_trail) (m_isMatch := m_isMatch) (m_matchGroups := m_matchGroups) (m_allFrom := m_allFrom) (m_allBefore := m_allBefore) (m_founds := m_founds) (m_pieces := m_pieces) (m_writtenMany := m_writtenMany) (m_templateWide := m_templateWide) (m_tooMuch := m_tooMuch) (x := (m_nodes + 1 + 1)) (dh := (31 - m_depth)) (rp := 2) (ls := 0) (dz := (pin 4 (ON m_depth) + (e1_ + d1_))) (SV := SV) (ro := mnI) (vv := mnI) (dv := (mnG (ON m_depth) (opO ao1_ ro1_))) (a1_ := x1_) (b1_ := x2_) (c1_ := x3_) (d1_ := x4_) (e1_ := x5_) (nu9 := 0) (fo9 := 0) (t1_ := xt_) (ao1_ := xo_) (ro1_ := xr_) (ts1_ := xs_) (RL := RL) (RH := RH) h80 ptrI_0 (by omega) (by omega) (by omega) (by omega)) (fun oc G2 h => by rcases h with ⟨h, _⟩ <;> exact ⟨_, h⟩) (by omega) m_MO_part ml_MO_375 im_MO_part se_MO_part c_MO h80.2.2 (Nat.le_of_ble_eq_true rfl) d_MO_closeGroup_94 rfl ?_
        intro v G29 hq
        rcases hq with ⟨hv, hfk, hlk, hsk, pNtrI_0⟩
        cases hv
        have h80 := hfk.get h80 (by decide)
        have h84 := hfk.get h84 (by decide)
        have h87 := hfk.get h87 (by decide)
        have h88 := hfk.get h88 (by decide)
        have h93 := hfk.get h93 (by decide)
        have h81 := hfk.get h81 (by decide)
        have h82 := hfk.get h82 (by decide)
        have h91 := hfk.get h91 (by decide)
        have h92 := hfk.get h92 (by decide)
        have h110 := hfk.get h110 (by decide)
        have h111 := hfk.get h111 (by decide)
        have ptrI_0 := pNtrI_0
        have hfr := hfr.tr hfk (by decide)
        have hlen := hlk.trans hlen
        have hsl := hsk.trans hsl
        change ab_W _ _ _ G29 97 [some (vR 80), some (vz (m_nodes + 1)), some (vz (ON m_depth)), some (vz (m_nodes + 1 + 1))] [] _
        refine ab_aload_n d_MO_closeGroup_97 rfl ?_
        refine ab_dup d_MO_closeGroup_98 rfl ?_
        refine ab_getf (fs := mof m_thrown m_taped m_length m_out m_wide m_gathered m_sets m_ranges ((m_nodes + 1 + 1) + 1) m_at (OF m_depth) m_fault m_place m_numbered (m_depth - 1) m_value m_isNot m_least0 m_most0 m_slot m_work m_got m_rowMany m_charAt m_charWide m_trail m_isMatch m_matchGroups m_allFrom m_allBefore m_founds m_pieces m_writtenMany m_templateWide m_tooMuch) f_MO_279 d_MO_closeGroup_99 h80.2.2 rfl ?_
        refine zz_iconst d_MO_closeGroup_102 ?_
        refine zz_iadd d_MO_closeGroup_103 ?_
        refine ab_putf (fs := mof m_thrown m_taped m_length m_out m_wide m_gathered m_sets m_ranges ((m_nodes + 1 + 1) + 1) m_at (OF m_depth) m_fault m_place m_numbered (m_depth - 1) m_value m_isNot m_least0 m_most0 m_slot m_work m_got m_rowMany m_charAt m_charWide m_trail m_isMatch m_matchGroups m_allFrom m_allBefore m_founds m_pieces m_writtenMany m_templateWide m_tooMuch) f_MO_279 (Or.inl rfl) d_MO_closeGroup_104 h80.2.2 (Nat.le_of_ble_eq_true rfl) (fun _ => ⟨rfl, rfl⟩) (h80.2.1 (by decide)) ?_
        obtain ⟨G30, eG30⟩ : ∃ z : ab_G, z = List.set G29 80 (ab_ob 12 (mof m_thrown m_taped m_length m_out m_wide m_gathered m_sets m_ranges ((m_nodes + 1 + 1) + 1) (m_at + 1) (OF m_depth) m_fault m_place m_numbered (m_depth - 1) m_value m_isNot m_least0 m_most0 m_slot m_work m_got m_rowMany m_charAt m_charWide m_trail m_isMatch m_matchGroups m_allFrom m_allBefore m_founds m_pieces m_writtenMany m_templateWide m_tooMuch)) := ⟨_, rfl⟩
        have h84 := h84.keep h80 eG30 (by decide)
        have h87 := h87.keep h80 eG30 (by decide)
        have h88 := h88.keep h80 eG30 (by decide)
        have h93 := h93.keep h80 eG30 (by decide)
        have h81 := h81.keep h80 eG30 (by decide)
        have h82 := h82.keep h80 eG30 (by decide)
        have h91 := h91.keep h80 eG30 (by decide)
        have h92 := h92.keep h80 eG30 (by decide)
        have h110 := h110.keep h80 eG30 (by decide)
        have h111 := h111.keep h80 eG30 (by decide)
        have hst := (fx.rf (o := o) (S := [280]) (G := G29)).wr h80 eG30 (List.mem_singleton.mpr rfl)
        have ptrI_0 := trI.fr hst ptrI_0 (by decide) (by decide) (by decide) (by decide) (by decide) (by decide) (by decide) (by decide) (by decide) (by decide) (by decide) (by decide) (by decide) (by decide) (by decide) (by decide) (by decide) (by decide)
        have hlen := (z_len eG30).trans hlen
        have hsl := (z_sl h80 eG30 rfl).trans hsl
        have hfr := hfr.wr h80 eG30 (by decide)
        have h80 := h80.kept eG30
        change ab_W _ _ _ (List.set G29 80 (ab_ob 12 (mof m_thrown m_taped m_length m_out m_wide m_gathered m_sets m_ranges ((m_nodes + 1 + 1) + 1) (m_at + 1) (OF m_depth) m_fault m_place m_numbered (m_depth - 1) m_value m_isNot m_least0 m_most0 m_slot m_work m_got m_rowMany m_charAt m_charWide m_trail m_isMatch m_matchGroups m_allFrom m_allBefore m_founds m_pieces m_writtenMany m_templateWide m_tooMuch))) 107 [some (vR 80), some (vz (m_nodes + 1)), some (vz (ON m_depth)), some (vz (m_nodes + 1 + 1))] [] _
        rw [← eG30]
        refine ab_vret rfl d_MO_closeGroup_107 ?_
        rw [hQ]; exact (Or.inl ⟨_, _, _, _, _, _, _, _, _, _, _, _, _, _, _, _, _, _, _, _, _, _, ((x1_, x2_, x3_, x4_, (x5_ + (pin 4 (ON m_depth) + (e1_ + d1_)))) :: xt_), 1, (pin 4 (ON m_depth) + (e1_ + d1_)), SV, ((xo_, (mnC xr_ (mnG (ON m_depth) (opO ao1_ ro1_)))) :: xs_), xr_, (mnG (ON m_depth) (opO ao1_ ro1_)), na, nl, rfl, hfr, hlen, hsl, h80, h87, h88, h93, h91, h92, h110, h111, ptrI_0, (by omega), (by first | exact jmk | exact rgs_w jmk (by omega)), (by first | exact jrl | exact rgs_w jrl (by omega)), (by first | exact jrh | exact rgs_w jrh (by omega)), (by first | exact jns | exact rgs_w jns (by omega)), (by first | exact jnm | exact rgs_w jnm (by omega)), (by omega), (by exact jnj), (by rw [hxt_, hof_]; exact sb_close (by omega) (by rw [hc7_.1]; omega)), (by rw [hxs_, hc7_.1]; exact ss_close (by omega))⟩)
  · refine ab_aload_n d_MO_closeGroup_7 rfl ?_
    refine zz_iconst d_MO_closeGroup_8 ?_
    refine ab_aload_n d_MO_closeGroup_9 rfl ?_
    refine ab_getf (fs := mof m_thrown m_taped m_length m_out m_wide m_gathered m_sets m_ranges m_nodes m_at m_flags m_fault m_place m_numbered m_depth m_value m_isNot m_least0 m_most0 m_slot m_work m_got m_rowMany m_charAt m_charWide m_trail m_isMatch m_matchGroups m_allFrom m_allBefore m_founds m_pieces m_writtenMany m_templateWide m_tooMuch) f_MO_279 d_MO_closeGroup_10 h80.2.2 rfl ?_
    refine ab_callV (d' := d - 1) (as := [vz 3, vz m_at]) (st := []) (r := _) (z_MO_wrong (o := o) (m_thrown := m_thrown) (m_taped := m_taped) (m_length := m_length) (m_out := m_out) (m_wide := m_wide) (m_gathered := m_gathered) (m_sets := m_sets) (m_ranges := m_ranges) (m_nodes := m_nodes) (m_at := m_at) (m_flags := m_flags) (m_fault := m_fault) (m_place := m_place) (m_numbered := m_numbered) (m_depth := m_depth) (m_value := m_value) (m_isNot := m_isNot) (m_least0 := m_least0) (m_most0 := m_most0) (m_slot := m_slot) (m_work := m_work) (m_got := m_got) (m_rowMany := m_rowMany) (m_charAt := m_charAt) (m_charWide := m_charWide) (m_trail := m_trail) (m_isMatch := m_isMatch) (m_matchGroups := m_matchGroups) (m_allFrom := m_allFrom) (m_allBefore := m_allBefore) (m_founds := m_founds) (m_pieces := m_pieces) (m_writtenMany := m_writtenMany) (m_templateWide := m_templateWide) (m_tooMuch := m_tooMuch) (x := 3) (y := m_at) h80 (by omega) (by omega)) (fun oc G2 h => by rcases h with ⟨h, _⟩ | ⟨h, _⟩ <;> exact ⟨_, h⟩) (by omega) m_MO_wrong ml_MO_304 im_MO_wrong se_MO_wrong c_MO h80.2.2 (Nat.le_of_ble_eq_true rfl) d_MO_closeGroup_13 rfl ?_
    intro v G31 hq
    rcases hq with ⟨hv, hfk, hlk, hsk, hN80, hq32⟩ | ⟨hv, hGe, hq33⟩
    · cases hv
      have h84 := hfk.get h84 (by decide)
      have h87 := hfk.get h87 (by decide)
      have h88 := hfk.get h88 (by decide)
      have h93 := hfk.get h93 (by decide)
      have h81 := hfk.get h81 (by decide)
      have h82 := hfk.get h82 (by decide)
      have h91 := hfk.get h91 (by decide)
      have h92 := hfk.get h92 (by decide)
      have h110 := hfk.get h110 (by decide)
      have h111 := hfk.get h111 (by decide)
      have ptrI_0 := trI.fr hfk ptrI_0 (by decide) (by decide) (by decide) (by decide) (by decide) (by decide) (by decide) (by decide) (by decide) (by decide) (by decide) (by decide) (by decide) (by decide) (by decide) (by decide) (by decide) (by decide)
      have hfr := hfr.tr hfk (by decide)
      have hlen := hlk.trans hlen
      have hsl := hsk.trans hsl
      have h80 := hN80
      change ab_W _ _ _ G31 16 [some (vR 80), none, none, none] [] _
      refine ab_vret rfl d_MO_closeGroup_16 ?_
      rw [hQ]; exact (Or.inr ⟨_, _, _, _, _, _, _, _, _, _, _, _, _, _, _, _, _, _, _, _, _, _, ((a1_, b1_, c1_, d1_, e1_) :: t1_), rp, ls, SV, ((ao1_, ro1_) :: ts1_), ro, vv, rfl, hfr, hlen, hsl, h80, h87, h88, h93, h91, h92, h110, h111, ptrI_0, (by omega), (by first | exact jmk | exact rgs_w jmk (by omega)), (by first | exact jrl | exact rgs_w jrl (by omega)), (by first | exact jrh | exact rgs_w jrh (by omega)), (by first | exact jns | exact rgs_w jns (by omega)), (by first | exact jnm | exact rgs_w jnm (by omega)), (by exact sf_3 (by omega) (by have t_ := hln_; simp only [List.length_cons] at t_ ⊢; omega))⟩)
    · cases hv
      rw [hGe]
      change ab_W _ _ _ G 16 [some (vR 80), none, none, none] [] _
      exfalso; omega
set_option maxRecDepth 100000 in
set_option maxHeartbeats 4000000 in
theorem y_MO_numbersEnd_4 {X : ab_X} {d : Nat} {Q : Outcome → ab_G → Prop} {o : Nat → Nat} {G0 : ab_G} {m_thrown : Int} {m_taped : Int} {m_length : Int} {m_out : Int} {m_wide : Int} {m_gathered : Int} {m_sets : Int} {m_ranges : Int} {m_nodes : Int} {m_at : Int} {m_flags : Int} {m_fault : Int} {m_place : Int} {m_numbered : Int} {m_depth : Int} {m_value : Int} {m_isNot : Int} {m_least0 : Int} {m_most0 : Int} {m_slot : Int} {m_work : Int} {m_got : Int} {m_rowMany : Int} {m_charAt : Int} {m_charWide : Int} {m_trail : Int} {m_isMatch : Int} {m_matchGroups : Int} {m_allFrom : Int} {m_allBefore : Int} {m_founds : Int} {m_pieces : Int} {m_writtenMany : Int} {m_templateWide : Int} {m_tooMuch : Int} {A_tape : Int → Int} (cta : 0 ≤ m_taped ∧ m_taped ≤ 2000) (jtp : rgs A_tape 2000 0 255) (cat : 0 ≤ m_at ∧ m_at < m_taped) (hd : 1 ≤ d) : ∀ (mz : Nat) {G : ab_G} {k : Int} {n : Int}, (cc o G 80 280 (ab_ob 12 (mof m_thrown m_taped m_length m_out m_wide m_gathered m_sets m_ranges m_nodes m_at m_flags m_fault m_place m_numbered m_depth m_value m_isNot m_least0 m_most0 m_slot m_work m_got m_rowMany m_charAt m_charWide m_trail m_isMatch m_matchGroups m_allFrom m_allBefore m_founds m_pieces m_writtenMany m_templateWide m_tooMuch))) → (cc o G 84 284 (za 2000 A_tape)) → (1 ≤ k ∧ k ≤ 5 ∧ 0 ≤ n ∧ n < q10 (k - 1)) → (dI A_tape m_taped (m_at + 1) (k - 1) n) → (fx o o [] G0 G) → (G.length = G0.length) → (ab_slots G = ab_slots G0) → (Int.toNat (5 - k) < mz) → (∀ (G2 : ab_G) (k2 : Int) (n2 : Int), (1 ≤ k2 ∧ k2 ≤ 5 ∧ 0 ≤ n2 ∧ n2 ≤ 10000) → (dI A_tape m_taped (m_at + 1) (k2 - 1) n2) → (k2 = 5 ∨ ¬ dg (tpk A_tape m_taped (m_at + k2))) → (fx o o [] G0 G2) → (G2.length = G0.length) → (ab_slots G2 = ab_slots G0) → ab_W X (ab_pl y_MO_numbersEnd b_MO_numbersEnd 4 (some (.int))) d G2 49 [some (vR 80), some (vz k2), some (vz n2), none] [] Q) → ab_W X (ab_pl y_MO_numbersEnd b_MO_numbersEnd 4 (some (.int))) d G 4 [some (vR 80), some (vz k), some (vz n), none] [] Q := by
  intro mz
  induction mz with
  | zero => intro G k n h80 h84 ci jd hfr hlen hsl hm hk0; exact absurd hm (Nat.not_lt_zero _)
  | succ mz ih =>
    intro G k n h80 h84 ci jd hfr hlen hsl hm hk0
    have hq10_ := q10_in (k - 1) (by omega) (by omega)
    refine ab_aload_n d_MO_numbersEnd_4 rfl ?_
    refine ab_iload_n d_MO_numbersEnd_5 rfl ?_
    refine ab_callV (d' := d - 1) (as := [vz k]) (st := []) (r := _) (z_MO_here (o := o) (m_thrown := m_thrown) (m_taped := m_taped) (m_length := m_length) (m_out := m_out) (m_wide := m_wide) (m_gathered := m_gathered) (m_sets := m_sets) (m_ranges := m_ranges) (m_nodes := m_nodes) (m_at := m_at) (m_flags := m_flags) (m_fault := m_fault) (m_place := m_place) (m_numbered := m_numbered) (m_depth := m_depth) (m_value := m_value) (m_isNot := m_isNot) (m_least0 := m_least0) (m_most0 := m_most0) (m_slot := m_slot) (m_work := m_work) (m_got := m_got) (m_rowMany := m_rowMany) (m_charAt := m_charAt) (m_charWide := m_charWide) (m_trail := m_trail) (m_isMatch := m_isMatch) (m_matchGroups := m_matchGroups) (m_allFrom := m_allFrom) (m_allBefore := m_allBefore) (m_founds := m_founds) (m_pieces := m_pieces) (m_writtenMany := m_writtenMany) (m_templateWide := m_templateWide) (m_tooMuch := m_tooMuch) (A_tape := A_tape) (k := k) (qh := (m_at + k)) h80 h84 (by omega) (by omega) jtp (by omega) (by omega)) (fun oc G2 h => by rcases h with ⟨h, _⟩ | ⟨h, _⟩ <;> exact ⟨_, h⟩) (by omega) m_MO_here ml_MO_297 im_MO_here se_MO_here c_MO h80.2.2 (Nat.le_of_ble_eq_true rfl) d_MO_numbersEnd_6 rfl ?_
    intro v G1 hq
    rcases hq with ⟨hv, hGe, hq2⟩ | ⟨hv, hGe, hq3, hq4⟩
    · cases hv
      rw [hGe]
      change ab_W _ _ _ G 9 [some (vR 80), some (vz k), some (vz n), none] [vz (tpk A_tape m_taped (m_at + k))] _
      refine zz_bipush d_MO_numbersEnd_9 (by decide) ?_
      refine zz_icmp_lt (tgt := 49) d_MO_numbersEnd_11 (by decide) (by omega) (by decide) (fun c5 => ?_) (fun c5 => ?_)
      · exact hk0 _ _ _ (by omega) (by exact jd) (by first | (left; omega) | (right; unfold dg; omega)) hfr hlen hsl
      · refine ab_aload_n d_MO_numbersEnd_14 rfl ?_
        refine ab_iload_n d_MO_numbersEnd_15 rfl ?_
        refine ab_callV (d' := d - 1) (as := [vz k]) (st := []) (r := _) (z_MO_here (o := o) (m_thrown := m_thrown) (m_taped := m_taped) (m_length := m_length) (m_out := m_out) (m_wide := m_wide) (m_gathered := m_gathered) (m_sets := m_sets) (m_ranges := m_ranges) (m_nodes := m_nodes) (m_at := m_at) (m_flags := m_flags) (m_fault := m_fault) (m_place := m_place) (m_numbered := m_numbered) (m_depth := m_depth) (m_value := m_value) (m_isNot := m_isNot) (m_least0 := m_least0) (m_most0 := m_most0) (m_slot := m_slot) (m_work := m_work) (m_got := m_got) (m_rowMany := m_rowMany) (m_charAt := m_charAt) (m_charWide := m_charWide) (m_trail := m_trail) (m_isMatch := m_isMatch) (m_matchGroups := m_matchGroups) (m_allFrom := m_allFrom) (m_allBefore := m_allBefore) (m_founds := m_founds) (m_pieces := m_pieces) (m_writtenMany := m_writtenMany) (m_templateWide := m_templateWide) (m_tooMuch := m_tooMuch) (A_tape := A_tape) (k := k) (qh := (m_at + k)) h80 h84 (by omega) (by omega) jtp (by omega) (by omega)) (fun oc G2 h => by rcases h with ⟨h, _⟩ | ⟨h, _⟩ <;> exact ⟨_, h⟩) (by omega) m_MO_here ml_MO_297 im_MO_here se_MO_here c_MO h80.2.2 (Nat.le_of_ble_eq_true rfl) d_MO_numbersEnd_16 rfl ?_
        intro v G6 hq
        rcases hq with ⟨hv, hGe, hq7⟩ | ⟨hv, hGe, hq8, hq9⟩
        · cases hv
          rw [hGe]
          change ab_W _ _ _ G 19 [some (vR 80), some (vz k), some (vz n), none] [vz (tpk A_tape m_taped (m_at + k))] _
          refine zz_bipush d_MO_numbersEnd_19 (by decide) ?_
          refine zz_icmp_gt (tgt := 49) d_MO_numbersEnd_21 (by decide) (by omega) (by decide) (fun c10 => ?_) (fun c10 => ?_)
          · exact hk0 _ _ _ (by omega) (by exact jd) (by first | (left; omega) | (right; unfold dg; omega)) hfr hlen hsl
          · refine ab_iload_n d_MO_numbersEnd_24 rfl ?_
            refine zz_iconst d_MO_numbersEnd_25 ?_
            refine zz_icmp_ge (tgt := 49) d_MO_numbersEnd_26 (by decide) (by omega) (by decide) (fun c11 => ?_) (fun c11 => ?_)
            · exact hk0 _ _ _ (by omega) (by exact jd) (by first | (left; omega) | (right; unfold dg; omega)) hfr hlen hsl
            · have hq11_ := q10_s (k - 1) (by omega) (by omega)
              rw [show k - 1 + 1 = k + 1 - 1 by omega] at hq11_
              refine zz_bipush d_MO_numbersEnd_29 (by decide) ?_
              refine ab_iload_n d_MO_numbersEnd_31 rfl ?_
              refine zz_imul d_MO_numbersEnd_32 ?_
              refine ab_aload_n d_MO_numbersEnd_33 rfl ?_
              refine ab_iload_n d_MO_numbersEnd_34 rfl ?_
              refine ab_callV (d' := d - 1) (as := [vz k]) (st := [vz (10 * n)]) (r := _) (z_MO_here (o := o) (m_thrown := m_thrown) (m_taped := m_taped) (m_length := m_length) (m_out := m_out) (m_wide := m_wide) (m_gathered := m_gathered) (m_sets := m_sets) (m_ranges := m_ranges) (m_nodes := m_nodes) (m_at := m_at) (m_flags := m_flags) (m_fault := m_fault) (m_place := m_place) (m_numbered := m_numbered) (m_depth := m_depth) (m_value := m_value) (m_isNot := m_isNot) (m_least0 := m_least0) (m_most0 := m_most0) (m_slot := m_slot) (m_work := m_work) (m_got := m_got) (m_rowMany := m_rowMany) (m_charAt := m_charAt) (m_charWide := m_charWide) (m_trail := m_trail) (m_isMatch := m_isMatch) (m_matchGroups := m_matchGroups) (m_allFrom := m_allFrom) (m_allBefore := m_allBefore) (m_founds := m_founds) (m_pieces := m_pieces) (m_writtenMany := m_writtenMany) (m_templateWide := m_templateWide) (m_tooMuch := m_tooMuch) (A_tape := A_tape) (k := k) (qh := (m_at + k)) h80 h84 (by omega) (by omega) jtp (by omega) (by omega)) (fun oc G2 h => by rcases h with ⟨h, _⟩ | ⟨h, _⟩ <;> exact ⟨_, h⟩) (by omega) m_MO_here ml_MO_297 im_MO_here se_MO_here c_MO h80.2.2 (Nat.le_of_ble_eq_true rfl) d_MO_numbersEnd_35 rfl ?_
              intro v G12 hq
              rcases hq with ⟨hv, hGe, hq13⟩ | ⟨hv, hGe, hq14, hq15⟩
              · cases hv
                rw [hGe]
                change ab_W _ _ _ G 38 [some (vR 80), some (vz k), some (vz n), none] [vz (tpk A_tape m_taped (m_at + k)), vz (10 * n)] _
                refine zz_iadd d_MO_numbersEnd_38 ?_
                refine zz_bipush d_MO_numbersEnd_39 (by decide) ?_
                refine zz_isub d_MO_numbersEnd_41 ?_
                refine ab_istore_n d_MO_numbersEnd_42 (Nat.le_of_ble_eq_true rfl) (Nat.le_of_ble_eq_true rfl) rfl ?_
                change ab_W _ _ _ G 43 [some (vR 80), some (vz k), some (vz (((10 * n) + (tpk A_tape m_taped (m_at + k))) - 48)), none] [] _
                refine zz_iinc d_MO_numbersEnd_43 rfl (Nat.le_of_ble_eq_true rfl) (Nat.le_of_ble_eq_true rfl) rfl ?_
                change ab_W _ _ _ G 46 [some (vR 80), some (vz (k + 1)), some (vz (((10 * n) + (tpk A_tape m_taped (m_at + k))) - 48)), none] [] _
                refine ab_goto (tgt := 4) d_MO_numbersEnd_46 (by decide) ?_
                exact ih (k := (k + 1)) (n := (((10 * n) + (tpk A_tape m_taped (m_at + k))) - 48)) h80 h84 (by omega) (by have t_ := dI_s (c := tpk A_tape m_taped (m_at + k)) jd (by omega) (by rw [show m_at + 1 + (k - 1) = m_at + k by omega]) (by omega); rw [show k - 1 + 1 = k + 1 - 1 by omega] at t_; exact t_) hfr hlen hsl (by omega) hk0
              · cases hv
                rw [hGe]
                change ab_W _ _ _ G 38 [some (vR 80), some (vz k), some (vz n), none] [vz (-1), vz (10 * n)] _
                exfalso; omega
        · cases hv
          rw [hGe]
          change ab_W _ _ _ G 19 [some (vR 80), some (vz k), some (vz n), none] [vz (-1)] _
          exfalso; omega
    · cases hv
      rw [hGe]
      change ab_W _ _ _ G 9 [some (vR 80), some (vz k), some (vz n), none] [vz (-1)] _
      refine zz_bipush d_MO_numbersEnd_9 (by decide) ?_
      refine zz_icmp_lt (tgt := 49) d_MO_numbersEnd_11 (by decide) (by decide) (by decide) (fun c16 => ?_) (fun c16 => absurd c16 (by decide))
      exact hk0 _ _ _ (by omega) (by exact jd) (by first | (left; omega) | (right; unfold dg; omega)) hfr hlen hsl
set_option maxRecDepth 100000 in
set_option maxHeartbeats 4000000 in
theorem y_MO_numbersEnd_88 {X : ab_X} {d : Nat} {Q : Outcome → ab_G → Prop} {o : Nat → Nat} {G0 : ab_G} {m_thrown : Int} {m_taped : Int} {m_length : Int} {m_out : Int} {m_wide : Int} {m_gathered : Int} {m_sets : Int} {m_ranges : Int} {m_nodes : Int} {m_at : Int} {m_flags : Int} {m_fault : Int} {m_place : Int} {m_numbered : Int} {m_depth : Int} {m_value : Int} {m_isNot : Int} {m_least0 : Int} {m_most0 : Int} {m_slot : Int} {m_work : Int} {m_got : Int} {m_rowMany : Int} {m_charAt : Int} {m_charWide : Int} {m_trail : Int} {m_isMatch : Int} {m_matchGroups : Int} {m_allFrom : Int} {m_allBefore : Int} {m_founds : Int} {m_pieces : Int} {m_writtenMany : Int} {m_templateWide : Int} {m_tooMuch : Int} {A_tape : Int → Int} {fk : Int} (cta : 0 ≤ m_taped ∧ m_taped ≤ 2000) (jtp : rgs A_tape 2000 0 255) (cat : 0 ≤ m_at ∧ m_at < m_taped) (cfk : 2 ≤ fk ∧ fk ≤ 6) (hd : 1 ≤ d) : ∀ (mz : Nat) {G : ab_G} {k : Int} {n : Int}, (cc o G 80 280 (ab_ob 12 (mof m_thrown m_taped m_length m_out m_wide m_gathered m_sets m_ranges m_nodes m_at m_flags m_fault m_place m_numbered m_depth m_value m_isNot m_least0 m_most0 m_slot m_work m_got m_rowMany m_charAt m_charWide m_trail m_isMatch m_matchGroups m_allFrom m_allBefore m_founds m_pieces m_writtenMany m_templateWide m_tooMuch))) → (cc o G 84 284 (za 2000 A_tape)) → (fk ≤ k ∧ k ≤ fk + 4 ∧ 0 ≤ n ∧ n < q10 (k - fk)) → (dI A_tape m_taped (m_at + fk) (k - fk) n) → (fx o o [] G0 G) → (G.length = G0.length) → (ab_slots G = ab_slots G0) → (Int.toNat (fk + 4 - k) < mz) → (∀ (G2 : ab_G) (k2 : Int) (n2 : Int), (fk ≤ k2 ∧ k2 ≤ fk + 4 ∧ 0 ≤ n2 ∧ n2 ≤ 10000) → (dI A_tape m_taped (m_at + fk) (k2 - fk) n2) → (k2 = fk + 4 ∨ ¬ dg (tpk A_tape m_taped (m_at + k2))) → (fx o o [] G0 G2) → (G2.length = G0.length) → (ab_slots G2 = ab_slots G0) → ab_W X (ab_pl y_MO_numbersEnd b_MO_numbersEnd 4 (some (.int))) d G2 135 [some (vR 80), some (vz k2), some (vz n2), some (vz fk)] [] Q) → ab_W X (ab_pl y_MO_numbersEnd b_MO_numbersEnd 4 (some (.int))) d G 88 [some (vR 80), some (vz k), some (vz n), some (vz fk)] [] Q := by
  intro mz
  induction mz with
  | zero => intro G k n h80 h84 ci jd hfr hlen hsl hm hk0; exact absurd hm (Nat.not_lt_zero _)
  | succ mz ih =>
    intro G k n h80 h84 ci jd hfr hlen hsl hm hk0
    have hq10_ := q10_in (k - fk) (by omega) (by omega)
    refine ab_aload_n d_MO_numbersEnd_88 rfl ?_
    refine ab_iload_n d_MO_numbersEnd_89 rfl ?_
    refine ab_callV (d' := d - 1) (as := [vz k]) (st := []) (r := _) (z_MO_here (o := o) (m_thrown := m_thrown) (m_taped := m_taped) (m_length := m_length) (m_out := m_out) (m_wide := m_wide) (m_gathered := m_gathered) (m_sets := m_sets) (m_ranges := m_ranges) (m_nodes := m_nodes) (m_at := m_at) (m_flags := m_flags) (m_fault := m_fault) (m_place := m_place) (m_numbered := m_numbered) (m_depth := m_depth) (m_value := m_value) (m_isNot := m_isNot) (m_least0 := m_least0) (m_most0 := m_most0) (m_slot := m_slot) (m_work := m_work) (m_got := m_got) (m_rowMany := m_rowMany) (m_charAt := m_charAt) (m_charWide := m_charWide) (m_trail := m_trail) (m_isMatch := m_isMatch) (m_matchGroups := m_matchGroups) (m_allFrom := m_allFrom) (m_allBefore := m_allBefore) (m_founds := m_founds) (m_pieces := m_pieces) (m_writtenMany := m_writtenMany) (m_templateWide := m_templateWide) (m_tooMuch := m_tooMuch) (A_tape := A_tape) (k := k) (qh := (m_at + k)) h80 h84 (by omega) (by omega) jtp (by omega) (by omega)) (fun oc G2 h => by rcases h with ⟨h, _⟩ | ⟨h, _⟩ <;> exact ⟨_, h⟩) (by omega) m_MO_here ml_MO_297 im_MO_here se_MO_here c_MO h80.2.2 (Nat.le_of_ble_eq_true rfl) d_MO_numbersEnd_90 rfl ?_
    intro v G1 hq
    rcases hq with ⟨hv, hGe, hq2⟩ | ⟨hv, hGe, hq3, hq4⟩
    · cases hv
      rw [hGe]
      change ab_W _ _ _ G 93 [some (vR 80), some (vz k), some (vz n), some (vz fk)] [vz (tpk A_tape m_taped (m_at + k))] _
      refine zz_bipush d_MO_numbersEnd_93 (by decide) ?_
      refine zz_icmp_lt (tgt := 135) d_MO_numbersEnd_95 (by decide) (by omega) (by decide) (fun c5 => ?_) (fun c5 => ?_)
      · exact hk0 _ _ _ (by omega) (by exact jd) (by first | (left; omega) | (right; unfold dg; omega)) hfr hlen hsl
      · refine ab_aload_n d_MO_numbersEnd_98 rfl ?_
        refine ab_iload_n d_MO_numbersEnd_99 rfl ?_
        refine ab_callV (d' := d - 1) (as := [vz k]) (st := []) (r := _) (z_MO_here (o := o) (m_thrown := m_thrown) (m_taped := m_taped) (m_length := m_length) (m_out := m_out) (m_wide := m_wide) (m_gathered := m_gathered) (m_sets := m_sets) (m_ranges := m_ranges) (m_nodes := m_nodes) (m_at := m_at) (m_flags := m_flags) (m_fault := m_fault) (m_place := m_place) (m_numbered := m_numbered) (m_depth := m_depth) (m_value := m_value) (m_isNot := m_isNot) (m_least0 := m_least0) (m_most0 := m_most0) (m_slot := m_slot) (m_work := m_work) (m_got := m_got) (m_rowMany := m_rowMany) (m_charAt := m_charAt) (m_charWide := m_charWide) (m_trail := m_trail) (m_isMatch := m_isMatch) (m_matchGroups := m_matchGroups) (m_allFrom := m_allFrom) (m_allBefore := m_allBefore) (m_founds := m_founds) (m_pieces := m_pieces) (m_writtenMany := m_writtenMany) (m_templateWide := m_templateWide) (m_tooMuch := m_tooMuch) (A_tape := A_tape) (k := k) (qh := (m_at + k)) h80 h84 (by omega) (by omega) jtp (by omega) (by omega)) (fun oc G2 h => by rcases h with ⟨h, _⟩ | ⟨h, _⟩ <;> exact ⟨_, h⟩) (by omega) m_MO_here ml_MO_297 im_MO_here se_MO_here c_MO h80.2.2 (Nat.le_of_ble_eq_true rfl) d_MO_numbersEnd_100 rfl ?_
        intro v G6 hq
        rcases hq with ⟨hv, hGe, hq7⟩ | ⟨hv, hGe, hq8, hq9⟩
        · cases hv
          rw [hGe]
          change ab_W _ _ _ G 103 [some (vR 80), some (vz k), some (vz n), some (vz fk)] [vz (tpk A_tape m_taped (m_at + k))] _
          refine zz_bipush d_MO_numbersEnd_103 (by decide) ?_
          refine zz_icmp_gt (tgt := 135) d_MO_numbersEnd_105 (by decide) (by omega) (by decide) (fun c10 => ?_) (fun c10 => ?_)
          · exact hk0 _ _ _ (by omega) (by exact jd) (by first | (left; omega) | (right; unfold dg; omega)) hfr hlen hsl
          · refine ab_iload_n d_MO_numbersEnd_108 rfl ?_
            refine ab_iload_n d_MO_numbersEnd_109 rfl ?_
            refine zz_iconst d_MO_numbersEnd_110 ?_
            refine zz_iadd d_MO_numbersEnd_111 ?_
            refine zz_icmp_ge (tgt := 135) d_MO_numbersEnd_112 (by decide) (by omega) (by omega) (fun c11 => ?_) (fun c11 => ?_)
            · exact hk0 _ _ _ (by omega) (by exact jd) (by first | (left; omega) | (right; unfold dg; omega)) hfr hlen hsl
            · have hq11_ := q10_s (k - fk) (by omega) (by omega)
              rw [show k - fk + 1 = k + 1 - fk by omega] at hq11_
              refine zz_bipush d_MO_numbersEnd_115 (by decide) ?_
              refine ab_iload_n d_MO_numbersEnd_117 rfl ?_
              refine zz_imul d_MO_numbersEnd_118 ?_
              refine ab_aload_n d_MO_numbersEnd_119 rfl ?_
              refine ab_iload_n d_MO_numbersEnd_120 rfl ?_
              refine ab_callV (d' := d - 1) (as := [vz k]) (st := [vz (10 * n)]) (r := _) (z_MO_here (o := o) (m_thrown := m_thrown) (m_taped := m_taped) (m_length := m_length) (m_out := m_out) (m_wide := m_wide) (m_gathered := m_gathered) (m_sets := m_sets) (m_ranges := m_ranges) (m_nodes := m_nodes) (m_at := m_at) (m_flags := m_flags) (m_fault := m_fault) (m_place := m_place) (m_numbered := m_numbered) (m_depth := m_depth) (m_value := m_value) (m_isNot := m_isNot) (m_least0 := m_least0) (m_most0 := m_most0) (m_slot := m_slot) (m_work := m_work) (m_got := m_got) (m_rowMany := m_rowMany) (m_charAt := m_charAt) (m_charWide := m_charWide) (m_trail := m_trail) (m_isMatch := m_isMatch) (m_matchGroups := m_matchGroups) (m_allFrom := m_allFrom) (m_allBefore := m_allBefore) (m_founds := m_founds) (m_pieces := m_pieces) (m_writtenMany := m_writtenMany) (m_templateWide := m_templateWide) (m_tooMuch := m_tooMuch) (A_tape := A_tape) (k := k) (qh := (m_at + k)) h80 h84 (by omega) (by omega) jtp (by omega) (by omega)) (fun oc G2 h => by rcases h with ⟨h, _⟩ | ⟨h, _⟩ <;> exact ⟨_, h⟩) (by omega) m_MO_here ml_MO_297 im_MO_here se_MO_here c_MO h80.2.2 (Nat.le_of_ble_eq_true rfl) d_MO_numbersEnd_121 rfl ?_
              intro v G12 hq
              rcases hq with ⟨hv, hGe, hq13⟩ | ⟨hv, hGe, hq14, hq15⟩
              · cases hv
                rw [hGe]
                change ab_W _ _ _ G 124 [some (vR 80), some (vz k), some (vz n), some (vz fk)] [vz (tpk A_tape m_taped (m_at + k)), vz (10 * n)] _
                refine zz_iadd d_MO_numbersEnd_124 ?_
                refine zz_bipush d_MO_numbersEnd_125 (by decide) ?_
                refine zz_isub d_MO_numbersEnd_127 ?_
                refine ab_istore_n d_MO_numbersEnd_128 (Nat.le_of_ble_eq_true rfl) (Nat.le_of_ble_eq_true rfl) rfl ?_
                change ab_W _ _ _ G 129 [some (vR 80), some (vz k), some (vz (((10 * n) + (tpk A_tape m_taped (m_at + k))) - 48)), some (vz fk)] [] _
                refine zz_iinc d_MO_numbersEnd_129 rfl (Nat.le_of_ble_eq_true rfl) (Nat.le_of_ble_eq_true rfl) rfl ?_
                change ab_W _ _ _ G 132 [some (vR 80), some (vz (k + 1)), some (vz (((10 * n) + (tpk A_tape m_taped (m_at + k))) - 48)), some (vz fk)] [] _
                refine ab_goto (tgt := 88) d_MO_numbersEnd_132 (by decide) ?_
                exact ih (k := (k + 1)) (n := (((10 * n) + (tpk A_tape m_taped (m_at + k))) - 48)) h80 h84 (by omega) (by have t_ := dI_s (c := tpk A_tape m_taped (m_at + k)) jd (by omega) (by rw [show m_at + fk + (k - fk) = m_at + k by omega]) (by omega); rw [show k - fk + 1 = k + 1 - fk by omega] at t_; exact t_) hfr hlen hsl (by omega) hk0
              · cases hv
                rw [hGe]
                change ab_W _ _ _ G 124 [some (vR 80), some (vz k), some (vz n), some (vz fk)] [vz (-1), vz (10 * n)] _
                exfalso; omega
        · cases hv
          rw [hGe]
          change ab_W _ _ _ G 103 [some (vR 80), some (vz k), some (vz n), some (vz fk)] [vz (-1)] _
          exfalso; omega
    · cases hv
      rw [hGe]
      change ab_W _ _ _ G 93 [some (vR 80), some (vz k), some (vz n), some (vz fk)] [vz (-1)] _
      refine zz_bipush d_MO_numbersEnd_93 (by decide) ?_
      refine zz_icmp_lt (tgt := 135) d_MO_numbersEnd_95 (by decide) (by decide) (by decide) (fun c16 => ?_) (fun c16 => absurd c16 (by decide))
      exact hk0 _ _ _ (by omega) (by exact jd) (by first | (left; omega) | (right; unfold dg; omega)) hfr hlen hsl
set_option maxRecDepth 100000 in
set_option maxHeartbeats 4000000 in
theorem z_MO_numbersEnd {X : ab_X} {d : Nat} {o : Nat → Nat} {G : ab_G} {m_thrown : Int} {m_taped : Int} {m_length : Int} {m_out : Int} {m_wide : Int} {m_gathered : Int} {m_sets : Int} {m_ranges : Int} {m_nodes : Int} {m_at : Int} {m_flags : Int} {m_fault : Int} {m_place : Int} {m_numbered : Int} {m_depth : Int} {m_value : Int} {m_isNot : Int} {m_least0 : Int} {m_most0 : Int} {m_slot : Int} {m_work : Int} {m_got : Int} {m_rowMany : Int} {m_charAt : Int} {m_charWide : Int} {m_trail : Int} {m_isMatch : Int} {m_matchGroups : Int} {m_allFrom : Int} {m_allBefore : Int} {m_founds : Int} {m_pieces : Int} {m_writtenMany : Int} {m_templateWide : Int} {m_tooMuch : Int} {A_tape : Int → Int} (h80 : cc o G 80 280 (ab_ob 12 (mof m_thrown m_taped m_length m_out m_wide m_gathered m_sets m_ranges m_nodes m_at m_flags m_fault m_place m_numbered m_depth m_value m_isNot m_least0 m_most0 m_slot m_work m_got m_rowMany m_charAt m_charWide m_trail m_isMatch m_matchGroups m_allFrom m_allBefore m_founds m_pieces m_writtenMany m_templateWide m_tooMuch))) (h84 : cc o G 84 284 (za 2000 A_tape)) (n18 : ab_n0 = 18) (cta : 0 ≤ m_taped ∧ m_taped ≤ 2000) (jtp : rgs A_tape 2000 0 255) (cat : 0 ≤ m_at ∧ m_at < m_taped) (hch : tpk A_tape m_taped m_at = 123) (hd : 2 ≤ d) : ab_F X d y_MO_numbersEnd (.code y_MO_numbersEnd b_MO_numbersEnd 4 (some (.int))) [vR 80] G (fun oc G2 => (∃ le2 : Int, ∃ mo2 : Int, oc = .returned (some (vz (-1))) ∧ fx o o [280] G G2 ∧ G2.length = G.length ∧ ab_slots G2 = ab_slots G ∧ cc o G2 80 280 (ab_ob 12 (mof m_thrown m_taped m_length m_out m_wide m_gathered m_sets m_ranges m_nodes m_at m_flags m_fault m_place m_numbered m_depth m_value m_isNot le2 mo2 m_slot m_work m_got m_rowMany m_charAt m_charWide m_trail m_isMatch m_matchGroups m_allFrom m_allBefore m_founds m_pieces m_writtenMany m_templateWide m_tooMuch)) ∧ (norp A_tape m_taped m_at)) ∨ (∃ k2 : Int, ∃ le2 : Int, ∃ mo2 : Int, ∃ m9 : Int, oc = .returned (some (vz k2)) ∧ fx o o [280] G G2 ∧ G2.length = G.length ∧ ab_slots G2 = ab_slots G ∧ cc o G2 80 280 (ab_ob 12 (mof m_thrown m_taped m_length m_out m_wide m_gathered m_sets m_ranges m_nodes m_at m_flags m_fault m_place m_numbered m_depth m_value m_isNot le2 mo2 m_slot m_work m_got m_rowMany m_charAt m_charWide m_trail m_isMatch m_matchGroups m_allFrom m_allBefore m_founds m_pieces m_writtenMany m_templateWide m_tooMuch)) ∧ (1 ≤ k2 ∧ m_at + k2 ≤ m_taped ∧ 0 ≤ le2 ∧ le2 ≤ 10000 ∧ -1 ≤ mo2 ∧ mo2 ≤ 10000) ∧ ((mo2 < 0 ∧ m9 = 1000) ∨ (0 ≤ mo2 ∧ mo2 ≤ 999 ∧ m9 = mo2)) ∧ (repR A_tape m_taped m_at le2 m9 (m_at + k2) 1))) := by
  refine ab_F_of (by decide +kernel) (Nat.le_of_ble_eq_true rfl) ?_
  obtain ⟨Q, hQ⟩ : ∃ z : Outcome → ab_G → Prop, z = (fun oc G2 => (∃ le2 : Int, ∃ mo2 : Int, oc = .returned (some (vz (-1))) ∧ fx o o [280] G G2 ∧ G2.length = G.length ∧ ab_slots G2 = ab_slots G ∧ cc o G2 80 280 (ab_ob 12 (mof m_thrown m_taped m_length m_out m_wide m_gathered m_sets m_ranges m_nodes m_at m_flags m_fault m_place m_numbered m_depth m_value m_isNot le2 mo2 m_slot m_work m_got m_rowMany m_charAt m_charWide m_trail m_isMatch m_matchGroups m_allFrom m_allBefore m_founds m_pieces m_writtenMany m_templateWide m_tooMuch)) ∧ (norp A_tape m_taped m_at)) ∨ (∃ k2 : Int, ∃ le2 : Int, ∃ mo2 : Int, ∃ m9 : Int, oc = .returned (some (vz k2)) ∧ fx o o [280] G G2 ∧ G2.length = G.length ∧ ab_slots G2 = ab_slots G ∧ cc o G2 80 280 (ab_ob 12 (mof m_thrown m_taped m_length m_out m_wide m_gathered m_sets m_ranges m_nodes m_at m_flags m_fault m_place m_numbered m_depth m_value m_isNot le2 mo2 m_slot m_work m_got m_rowMany m_charAt m_charWide m_trail m_isMatch m_matchGroups m_allFrom m_allBefore m_founds m_pieces m_writtenMany m_templateWide m_tooMuch)) ∧ (1 ≤ k2 ∧ m_at + k2 ≤ m_taped ∧ 0 ≤ le2 ∧ le2 ≤ 10000 ∧ -1 ≤ mo2 ∧ mo2 ≤ 10000) ∧ ((mo2 < 0 ∧ m9 = 1000) ∨ (0 ≤ mo2 ∧ mo2 ≤ 999 ∧ m9 = mo2)) ∧ (repR A_tape m_taped m_at le2 m9 (m_at + k2) 1))) := ⟨_, rfl⟩
  rw [← hQ]
  change ab_W X (ab_pl y_MO_numbersEnd b_MO_numbersEnd 4 (some (.int))) d G 0 [some (vR 80), none, none, none] [] Q
  have hfr : fx o o [280] G G := fx.rf
  have hlen : G.length = G.length := rfl
  have hsl : ab_slots G = ab_slots G := rfl
  refine zz_iconst d_MO_numbersEnd_0 ?_
  refine ab_istore_n d_MO_numbersEnd_1 (Nat.le_of_ble_eq_true rfl) (Nat.le_of_ble_eq_true rfl) rfl ?_
  change ab_W _ _ _ G 2 [some (vR 80), some (vz 1), none, none] [] _
  refine zz_iconst d_MO_numbersEnd_2 ?_
  refine ab_istore_n d_MO_numbersEnd_3 (Nat.le_of_ble_eq_true rfl) (Nat.le_of_ble_eq_true rfl) rfl ?_
  change ab_W _ _ _ G 4 [some (vR 80), some (vz 1), some (vz 0), none] [] _
  refine y_MO_numbersEnd_4 (m_thrown := m_thrown) (m_taped := m_taped) (m_length := m_length) (m_out := m_out) (m_wide := m_wide) (m_gathered := m_gathered) (m_sets := m_sets) (m_ranges := m_ranges) (m_nodes := m_nodes) (m_at := m_at) (m_flags := m_flags) (m_fault := m_fault) (m_place := m_place) (m_numbered := m_numbered) (m_depth := m_depth) (m_value := m_value) (m_isNot := m_isNot) (m_least0 := m_least0) (m_most0 := m_most0) (m_slot := m_slot) (m_work := m_work) (m_got := m_got) (m_rowMany := m_rowMany) (m_charAt := m_charAt) (m_charWide := m_charWide) (m_trail := m_trail) (m_isMatch := m_isMatch) (m_matchGroups := m_matchGroups) (m_allFrom := m_allFrom) (m_allBefore := m_allBefore) (m_founds := m_founds) (m_pieces := m_pieces) (m_writtenMany := m_writtenMany) (m_templateWide := m_templateWide) (m_tooMuch := m_tooMuch) (A_tape := A_tape) (G0 := G) (k := 1) (n := 0) (by omega) jtp (by omega) (by omega) (Int.toNat (5 - 1) + 1) h80 h84 (by have t_ := q10_in (1 - 1) (by decide) (by decide); omega) (by rw [show (1 : Int) - 1 = 0 by decide]; exact dI_0) fx.rf rfl rfl (by omega) (fun G1 k22 n23 hq4 hq5 hq6 hfk hlk hsk => ?_)
  · have h80 := hfk.get h80 (by decide)
    have h84 := hfk.get h84 (by decide)
    have hfr := hfr.tr hfk (by decide)
    have hlen := hlk.trans hlen
    have hsl := hsk.trans hsl
    change ab_W _ _ _ G1 49 [some (vR 80), some (vz k22), some (vz n23), none] [] _
    refine ab_iload_n d_MO_numbersEnd_49 rfl ?_
    refine zz_iconst d_MO_numbersEnd_50 ?_
    refine zz_icmp_lt (tgt := 59) d_MO_numbersEnd_51 (by decide) (by omega) (by decide) (fun c7 => ?_) (fun c7 => ?_)
    · refine zz_iconst d_MO_numbersEnd_59 ?_
      refine zz_iret rfl d_MO_numbersEnd_60 ?_
      rw [hQ]; exact (Or.inl ⟨_, _, rfl, hfr, hlen, hsl, h80, (by exact nr_0 (by omega) (by have t_ := hq6.resolve_left (by omega); rw [show k22 = 1 by omega] at t_; exact t_))⟩)
    · refine ab_iload_n d_MO_numbersEnd_54 rfl ?_
      refine zz_iconst d_MO_numbersEnd_55 ?_
      refine zz_icmp_le (tgt := 61) d_MO_numbersEnd_56 (by decide) (by omega) (by decide) (fun c8 => ?_) (fun c8 => ?_)
      · have hn1_ : numR A_tape m_taped (m_at + 1) n23 (m_at + k22) := by have t_ := dI_num hq5 (by omega) (by rw [show m_at + 1 + (k22 - 1) = m_at + k22 by omega]; exact hq6.resolve_left (by omega)); rw [show m_at + 1 + (k22 - 1) = m_at + k22 by omega] at t_; exact t_
        refine ab_aload_n d_MO_numbersEnd_61 rfl ?_
        refine ab_iload_n d_MO_numbersEnd_62 rfl ?_
        refine ab_putf (fs := mof m_thrown m_taped m_length m_out m_wide m_gathered m_sets m_ranges m_nodes m_at m_flags m_fault m_place m_numbered m_depth m_value m_isNot m_least0 m_most0 m_slot m_work m_got m_rowMany m_charAt m_charWide m_trail m_isMatch m_matchGroups m_allFrom m_allBefore m_founds m_pieces m_writtenMany m_templateWide m_tooMuch) f_MO_403 (Or.inl rfl) d_MO_numbersEnd_63 h80.2.2 (Nat.le_of_ble_eq_true rfl) (fun _ => ⟨rfl, rfl⟩) (h80.2.1 (by decide)) ?_
        obtain ⟨G9, eG9⟩ : ∃ z : ab_G, z = List.set G1 80 (ab_ob 12 (mof m_thrown m_taped m_length m_out m_wide m_gathered m_sets m_ranges m_nodes m_at m_flags m_fault m_place m_numbered m_depth m_value m_isNot n23 m_most0 m_slot m_work m_got m_rowMany m_charAt m_charWide m_trail m_isMatch m_matchGroups m_allFrom m_allBefore m_founds m_pieces m_writtenMany m_templateWide m_tooMuch)) := ⟨_, rfl⟩
        have h84 := h84.keep h80 eG9 (by decide)
        have hlen := (z_len eG9).trans hlen
        have hsl := (z_sl h80 eG9 rfl).trans hsl
        have hfr := hfr.wr h80 eG9 (by decide)
        have h80 := h80.kept eG9
        change ab_W _ _ _ (List.set G1 80 (ab_ob 12 (mof m_thrown m_taped m_length m_out m_wide m_gathered m_sets m_ranges m_nodes m_at m_flags m_fault m_place m_numbered m_depth m_value m_isNot n23 m_most0 m_slot m_work m_got m_rowMany m_charAt m_charWide m_trail m_isMatch m_matchGroups m_allFrom m_allBefore m_founds m_pieces m_writtenMany m_templateWide m_tooMuch))) 66 [some (vR 80), some (vz k22), some (vz n23), none] [] _
        rw [← eG9]
        refine ab_aload_n d_MO_numbersEnd_66 rfl ?_
        refine ab_iload_n d_MO_numbersEnd_67 rfl ?_
        refine ab_putf (fs := mof m_thrown m_taped m_length m_out m_wide m_gathered m_sets m_ranges m_nodes m_at m_flags m_fault m_place m_numbered m_depth m_value m_isNot n23 m_most0 m_slot m_work m_got m_rowMany m_charAt m_charWide m_trail m_isMatch m_matchGroups m_allFrom m_allBefore m_founds m_pieces m_writtenMany m_templateWide m_tooMuch) f_MO_406 (Or.inl rfl) d_MO_numbersEnd_68 h80.2.2 (Nat.le_of_ble_eq_true rfl) (fun _ => ⟨rfl, rfl⟩) (h80.2.1 (by decide)) ?_
        obtain ⟨G10, eG10⟩ : ∃ z : ab_G, z = List.set G9 80 (ab_ob 12 (mof m_thrown m_taped m_length m_out m_wide m_gathered m_sets m_ranges m_nodes m_at m_flags m_fault m_place m_numbered m_depth m_value m_isNot n23 n23 m_slot m_work m_got m_rowMany m_charAt m_charWide m_trail m_isMatch m_matchGroups m_allFrom m_allBefore m_founds m_pieces m_writtenMany m_templateWide m_tooMuch)) := ⟨_, rfl⟩
        have h84 := h84.keep h80 eG10 (by decide)
        have hlen := (z_len eG10).trans hlen
        have hsl := (z_sl h80 eG10 rfl).trans hsl
        have hfr := hfr.wr h80 eG10 (by decide)
        have h80 := h80.kept eG10
        change ab_W _ _ _ (List.set G9 80 (ab_ob 12 (mof m_thrown m_taped m_length m_out m_wide m_gathered m_sets m_ranges m_nodes m_at m_flags m_fault m_place m_numbered m_depth m_value m_isNot n23 n23 m_slot m_work m_got m_rowMany m_charAt m_charWide m_trail m_isMatch m_matchGroups m_allFrom m_allBefore m_founds m_pieces m_writtenMany m_templateWide m_tooMuch))) 71 [some (vR 80), some (vz k22), some (vz n23), none] [] _
        rw [← eG10]
        refine ab_aload_n d_MO_numbersEnd_71 rfl ?_
        refine ab_iload_n d_MO_numbersEnd_72 rfl ?_
        refine ab_callV (d' := d - 1) (as := [vz k22]) (st := []) (r := _) (z_MO_here (o := o) (m_thrown := m_thrown) (m_taped := m_taped) (m_length := m_length) (m_out := m_out) (m_wide := m_wide) (m_gathered := m_gathered) (m_sets := m_sets) (m_ranges := m_ranges) (m_nodes := m_nodes) (m_at := m_at) (m_flags := m_flags) (m_fault := m_fault) (m_place := m_place) (m_numbered := m_numbered) (m_depth := m_depth) (m_value := m_value) (m_isNot := m_isNot) (m_least0 := n23) (m_most0 := n23) (m_slot := m_slot) (m_work := m_work) (m_got := m_got) (m_rowMany := m_rowMany) (m_charAt := m_charAt) (m_charWide := m_charWide) (m_trail := m_trail) (m_isMatch := m_isMatch) (m_matchGroups := m_matchGroups) (m_allFrom := m_allFrom) (m_allBefore := m_allBefore) (m_founds := m_founds) (m_pieces := m_pieces) (m_writtenMany := m_writtenMany) (m_templateWide := m_templateWide) (m_tooMuch := m_tooMuch) (A_tape := A_tape) (k := k22) (qh := (m_at + k22)) h80 h84 (by omega) (by omega) jtp (by omega) (by omega)) (fun oc G2 h => by rcases h with ⟨h, _⟩ | ⟨h, _⟩ <;> exact ⟨_, h⟩) (by omega) m_MO_here ml_MO_297 im_MO_here se_MO_here c_MO h80.2.2 (Nat.le_of_ble_eq_true rfl) d_MO_numbersEnd_73 rfl ?_
        intro v G11 hq
        rcases hq with ⟨hv, hGe, hq12⟩ | ⟨hv, hGe, hq13, hq14⟩
        · cases hv
          rw [hGe]
          change ab_W _ _ _ G10 76 [some (vR 80), some (vz k22), some (vz n23), none] [vz (tpk A_tape m_taped (m_at + k22))] _
          refine zz_bipush d_MO_numbersEnd_76 (by decide) ?_
          refine zz_icmp_ne (tgt := 158) d_MO_numbersEnd_78 (by decide) (by omega) (by decide) (fun c15 => ?_) (fun c15 => ?_)
          · refine ab_aload_n d_MO_numbersEnd_158 rfl ?_
            refine ab_iload_n d_MO_numbersEnd_159 rfl ?_
            refine ab_callV (d' := d - 1) (as := [vz k22]) (st := []) (r := _) (z_MO_here (o := o) (m_thrown := m_thrown) (m_taped := m_taped) (m_length := m_length) (m_out := m_out) (m_wide := m_wide) (m_gathered := m_gathered) (m_sets := m_sets) (m_ranges := m_ranges) (m_nodes := m_nodes) (m_at := m_at) (m_flags := m_flags) (m_fault := m_fault) (m_place := m_place) (m_numbered := m_numbered) (m_depth := m_depth) (m_value := m_value) (m_isNot := m_isNot) (m_least0 := n23) (m_most0 := n23) (m_slot := m_slot) (m_work := m_work) (m_got := m_got) (m_rowMany := m_rowMany) (m_charAt := m_charAt) (m_charWide := m_charWide) (m_trail := m_trail) (m_isMatch := m_isMatch) (m_matchGroups := m_matchGroups) (m_allFrom := m_allFrom) (m_allBefore := m_allBefore) (m_founds := m_founds) (m_pieces := m_pieces) (m_writtenMany := m_writtenMany) (m_templateWide := m_templateWide) (m_tooMuch := m_tooMuch) (A_tape := A_tape) (k := k22) (qh := (m_at + k22)) h80 h84 (by omega) (by omega) jtp (by omega) (by omega)) (fun oc G2 h => by rcases h with ⟨h, _⟩ | ⟨h, _⟩ <;> exact ⟨_, h⟩) (by omega) m_MO_here ml_MO_297 im_MO_here se_MO_here c_MO h80.2.2 (Nat.le_of_ble_eq_true rfl) d_MO_numbersEnd_160 rfl ?_
            intro v G16 hq
            rcases hq with ⟨hv, hGe, hq17⟩ | ⟨hv, hGe, hq18, hq19⟩
            · cases hv
              rw [hGe]
              change ab_W _ _ _ G10 163 [some (vR 80), some (vz k22), some (vz n23), none] [vz (tpk A_tape m_taped (m_at + k22))] _
              refine zz_bipush d_MO_numbersEnd_163 (by decide) ?_
              refine zz_icmp_ne (tgt := 174) d_MO_numbersEnd_165 (by decide) (by omega) (by decide) (fun c20 => ?_) (fun c20 => ?_)
              · refine zz_iconst d_MO_numbersEnd_174 ?_
                refine zz_iret rfl d_MO_numbersEnd_175 ?_
                rw [hQ]; exact (Or.inl ⟨_, _, rfl, hfr, hlen, hsl, h80, (by exact nr_x (by omega) hn1_ (by omega))⟩)
              · refine ab_iload_n d_MO_numbersEnd_168 rfl ?_
                refine zz_iconst d_MO_numbersEnd_169 ?_
                refine zz_iadd d_MO_numbersEnd_170 ?_
                refine ab_goto (tgt := 175) d_MO_numbersEnd_171 (by decide) ?_
                refine zz_iret rfl d_MO_numbersEnd_175 ?_
                rw [hQ]; exact (Or.inr ⟨_, _, _, n23, rfl, hfr, hlen, hsl, h80, (by omega), (by first | omega | (have t_ := numR_in hn1_; omega) | (have t_ := numR_in hn2_; omega)), (by exact Or.inr (Or.inr (Or.inr ⟨by omega, rfl, _, hn1_, by omega, Or.inl ⟨by omega, rfl, by omega⟩⟩)))⟩)
            · cases hv
              rw [hGe]
              change ab_W _ _ _ G10 163 [some (vR 80), some (vz k22), some (vz n23), none] [vz (-1)] _
              exfalso; omega
          · refine zz_iinc d_MO_numbersEnd_81 rfl (Nat.le_of_ble_eq_true rfl) (Nat.le_of_ble_eq_true rfl) rfl ?_
            change ab_W _ _ _ G10 84 [some (vR 80), some (vz (k22 + 1)), some (vz n23), none] [] _
            refine ab_iload_n d_MO_numbersEnd_84 rfl ?_
            refine ab_istore_n d_MO_numbersEnd_85 (Nat.le_of_ble_eq_true rfl) (Nat.le_of_ble_eq_true rfl) rfl ?_
            change ab_W _ _ _ G10 86 [some (vR 80), some (vz (k22 + 1)), some (vz n23), some (vz (k22 + 1))] [] _
            refine zz_iconst d_MO_numbersEnd_86 ?_
            refine ab_istore_n d_MO_numbersEnd_87 (Nat.le_of_ble_eq_true rfl) (Nat.le_of_ble_eq_true rfl) rfl ?_
            change ab_W _ _ _ G10 88 [some (vR 80), some (vz (k22 + 1)), some (vz 0), some (vz (k22 + 1))] [] _
            refine y_MO_numbersEnd_88 (m_thrown := m_thrown) (m_taped := m_taped) (m_length := m_length) (m_out := m_out) (m_wide := m_wide) (m_gathered := m_gathered) (m_sets := m_sets) (m_ranges := m_ranges) (m_nodes := m_nodes) (m_at := m_at) (m_flags := m_flags) (m_fault := m_fault) (m_place := m_place) (m_numbered := m_numbered) (m_depth := m_depth) (m_value := m_value) (m_isNot := m_isNot) (m_least0 := n23) (m_most0 := n23) (m_slot := m_slot) (m_work := m_work) (m_got := m_got) (m_rowMany := m_rowMany) (m_charAt := m_charAt) (m_charWide := m_charWide) (m_trail := m_trail) (m_isMatch := m_isMatch) (m_matchGroups := m_matchGroups) (m_allFrom := m_allFrom) (m_allBefore := m_allBefore) (m_founds := m_founds) (m_pieces := m_pieces) (m_writtenMany := m_writtenMany) (m_templateWide := m_templateWide) (m_tooMuch := m_tooMuch) (A_tape := A_tape) (fk := (k22 + 1)) (G0 := G10) (k := (k22 + 1)) (n := 0) (by omega) jtp (by omega) (by omega) (by omega) (Int.toNat ((k22 + 1) + 4 - (k22 + 1)) + 1) h80 h84 (by have t_ := q10_in ((k22 + 1) - (k22 + 1)) (by omega) (by omega); omega) (by rw [show (k22 + 1) - (k22 + 1) = 0 by omega]; exact dI_0) fx.rf rfl rfl (by omega) (fun G21 k222 n223 hq24 hq25 hq26 hfk hlk hsk => ?_)
            · have h80 := hfk.get h80 (by decide)
              have h84 := hfk.get h84 (by decide)
              have hfr := hfr.tr hfk (by decide)
              have hlen := hlk.trans hlen
              have hsl := hsk.trans hsl
              change ab_W _ _ _ G21 135 [some (vR 80), some (vz k222), some (vz n223), some (vz (k22 + 1))] [] _
              refine ab_iload_n d_MO_numbersEnd_135 rfl ?_
              refine ab_iload_n d_MO_numbersEnd_136 rfl ?_
              refine zz_iconst d_MO_numbersEnd_137 ?_
              refine zz_iadd d_MO_numbersEnd_138 ?_
              refine zz_icmp_le (tgt := 144) d_MO_numbersEnd_139 (by decide) (by omega) (by omega) (fun c27 => ?_) (fun c27 => ?_)
              · refine ab_aload_n d_MO_numbersEnd_144 rfl ?_
                refine ab_iload_n d_MO_numbersEnd_145 rfl ?_
                refine ab_iload_n d_MO_numbersEnd_146 rfl ?_
                refine zz_icmp_ne (tgt := 154) d_MO_numbersEnd_147 (by decide) (by omega) (by omega) (fun c28 => ?_) (fun c28 => ?_)
                · have hn2_ : numR A_tape m_taped (m_at + k22 + 1) n223 (m_at + k222) := by have t_ := dI_num hq25 (by omega) (by rw [show m_at + (k22 + 1) + (k222 - (k22 + 1)) = m_at + k222 by omega]; exact hq26.resolve_left (by omega)); rw [show m_at + (k22 + 1) + (k222 - (k22 + 1)) = m_at + k222 by omega, show m_at + (k22 + 1) = m_at + k22 + 1 by omega] at t_; exact t_
                  have hd2_ : dg (tpk A_tape m_taped (m_at + k22 + 1)) := by have t_ := dI_d hq25 (by omega); rw [show m_at + (k22 + 1) = m_at + k22 + 1 by omega] at t_; exact t_
                  have hd3_ := hd2_
                  unfold dg at hd3_
                  refine ab_iload_n d_MO_numbersEnd_154 rfl ?_
                  refine ab_putf (fs := mof m_thrown m_taped m_length m_out m_wide m_gathered m_sets m_ranges m_nodes m_at m_flags m_fault m_place m_numbered m_depth m_value m_isNot n23 n23 m_slot m_work m_got m_rowMany m_charAt m_charWide m_trail m_isMatch m_matchGroups m_allFrom m_allBefore m_founds m_pieces m_writtenMany m_templateWide m_tooMuch) f_MO_406 (Or.inl rfl) d_MO_numbersEnd_155 h80.2.2 (Nat.le_of_ble_eq_true rfl) (fun _ => ⟨rfl, rfl⟩) (h80.2.1 (by decide)) ?_
                  obtain ⟨G29, eG29⟩ : ∃ z : ab_G, z = List.set G21 80 (ab_ob 12 (mof m_thrown m_taped m_length m_out m_wide m_gathered m_sets m_ranges m_nodes m_at m_flags m_fault m_place m_numbered m_depth m_value m_isNot n23 n223 m_slot m_work m_got m_rowMany m_charAt m_charWide m_trail m_isMatch m_matchGroups m_allFrom m_allBefore m_founds m_pieces m_writtenMany m_templateWide m_tooMuch)) := ⟨_, rfl⟩
                  have h84 := h84.keep h80 eG29 (by decide)
                  have hlen := (z_len eG29).trans hlen
                  have hsl := (z_sl h80 eG29 rfl).trans hsl
                  have hfr := hfr.wr h80 eG29 (by decide)
                  have h80 := h80.kept eG29
                  change ab_W _ _ _ (List.set G21 80 (ab_ob 12 (mof m_thrown m_taped m_length m_out m_wide m_gathered m_sets m_ranges m_nodes m_at m_flags m_fault m_place m_numbered m_depth m_value m_isNot n23 n223 m_slot m_work m_got m_rowMany m_charAt m_charWide m_trail m_isMatch m_matchGroups m_allFrom m_allBefore m_founds m_pieces m_writtenMany m_templateWide m_tooMuch))) 158 [some (vR 80), some (vz k222), some (vz n223), some (vz (k22 + 1))] [] _
                  rw [← eG29]
                  refine ab_aload_n d_MO_numbersEnd_158 rfl ?_
                  refine ab_iload_n d_MO_numbersEnd_159 rfl ?_
                  refine ab_callV (d' := d - 1) (as := [vz k222]) (st := []) (r := _) (z_MO_here (o := o) (m_thrown := m_thrown) (m_taped := m_taped) (m_length := m_length) (m_out := m_out) (m_wide := m_wide) (m_gathered := m_gathered) (m_sets := m_sets) (m_ranges := m_ranges) (m_nodes := m_nodes) (m_at := m_at) (m_flags := m_flags) (m_fault := m_fault) (m_place := m_place) (m_numbered := m_numbered) (m_depth := m_depth) (m_value := m_value) (m_isNot := m_isNot) (m_least0 := n23) (m_most0 := n223) (m_slot := m_slot) (m_work := m_work) (m_got := m_got) (m_rowMany := m_rowMany) (m_charAt := m_charAt) (m_charWide := m_charWide) (m_trail := m_trail) (m_isMatch := m_isMatch) (m_matchGroups := m_matchGroups) (m_allFrom := m_allFrom) (m_allBefore := m_allBefore) (m_founds := m_founds) (m_pieces := m_pieces) (m_writtenMany := m_writtenMany) (m_templateWide := m_templateWide) (m_tooMuch := m_tooMuch) (A_tape := A_tape) (k := k222) (qh := (m_at + k222)) h80 h84 (by omega) (by omega) jtp (by omega) (by omega)) (fun oc G2 h => by rcases h with ⟨h, _⟩ | ⟨h, _⟩ <;> exact ⟨_, h⟩) (by omega) m_MO_here ml_MO_297 im_MO_here se_MO_here c_MO h80.2.2 (Nat.le_of_ble_eq_true rfl) d_MO_numbersEnd_160 rfl ?_
                  intro v G30 hq
                  rcases hq with ⟨hv, hGe, hq31⟩ | ⟨hv, hGe, hq32, hq33⟩
                  · cases hv
                    rw [hGe]
                    change ab_W _ _ _ G29 163 [some (vR 80), some (vz k222), some (vz n223), some (vz (k22 + 1))] [vz (tpk A_tape m_taped (m_at + k222))] _
                    refine zz_bipush d_MO_numbersEnd_163 (by decide) ?_
                    refine zz_icmp_ne (tgt := 174) d_MO_numbersEnd_165 (by decide) (by omega) (by decide) (fun c34 => ?_) (fun c34 => ?_)
                    · refine zz_iconst d_MO_numbersEnd_174 ?_
                      refine zz_iret rfl d_MO_numbersEnd_175 ?_
                      rw [hQ]; exact (Or.inl ⟨_, _, rfl, hfr, hlen, hsl, h80, (by exact nr_cx (by omega) hn1_ (by omega) hn2_ (by omega) hd2_)⟩)
                    · refine ab_iload_n d_MO_numbersEnd_168 rfl ?_
                      refine zz_iconst d_MO_numbersEnd_169 ?_
                      refine zz_iadd d_MO_numbersEnd_170 ?_
                      refine ab_goto (tgt := 175) d_MO_numbersEnd_171 (by decide) ?_
                      refine zz_iret rfl d_MO_numbersEnd_175 ?_
                      rw [hQ]; exact (Or.inr ⟨_, _, _, n223, rfl, hfr, hlen, hsl, h80, (by omega), (by first | omega | (have t_ := numR_in hn1_; omega) | (have t_ := numR_in hn2_; omega)), (by exact Or.inr (Or.inr (Or.inr ⟨by omega, rfl, _, hn1_, by omega, Or.inr (Or.inr ⟨by omega, by omega, _, hn2_, by omega, by omega, by omega⟩)⟩)))⟩)
                  · cases hv
                    rw [hGe]
                    change ab_W _ _ _ G29 163 [some (vR 80), some (vz k222), some (vz n223), some (vz (k22 + 1))] [vz (-1)] _
                    refine zz_bipush d_MO_numbersEnd_163 (by decide) ?_
                    refine zz_icmp_ne (tgt := 174) d_MO_numbersEnd_165 (by decide) (by decide) (by decide) (fun c35 => ?_) (fun c35 => absurd c35 (by decide))
                    refine zz_iconst d_MO_numbersEnd_174 ?_
                    refine zz_iret rfl d_MO_numbersEnd_175 ?_
                    rw [hQ]; exact (Or.inl ⟨_, _, rfl, hfr, hlen, hsl, h80, (by exact nr_cx (by omega) hn1_ (by omega) hn2_ (by omega) hd2_)⟩)
                · refine zz_iconst d_MO_numbersEnd_150 ?_
                  refine ab_goto (tgt := 155) d_MO_numbersEnd_151 (by decide) ?_
                  refine ab_putf (fs := mof m_thrown m_taped m_length m_out m_wide m_gathered m_sets m_ranges m_nodes m_at m_flags m_fault m_place m_numbered m_depth m_value m_isNot n23 n23 m_slot m_work m_got m_rowMany m_charAt m_charWide m_trail m_isMatch m_matchGroups m_allFrom m_allBefore m_founds m_pieces m_writtenMany m_templateWide m_tooMuch) f_MO_406 (Or.inl rfl) d_MO_numbersEnd_155 h80.2.2 (Nat.le_of_ble_eq_true rfl) (fun _ => ⟨rfl, rfl⟩) (h80.2.1 (by decide)) ?_
                  obtain ⟨G36, eG36⟩ : ∃ z : ab_G, z = List.set G21 80 (ab_ob 12 (mof m_thrown m_taped m_length m_out m_wide m_gathered m_sets m_ranges m_nodes m_at m_flags m_fault m_place m_numbered m_depth m_value m_isNot n23 (-1) m_slot m_work m_got m_rowMany m_charAt m_charWide m_trail m_isMatch m_matchGroups m_allFrom m_allBefore m_founds m_pieces m_writtenMany m_templateWide m_tooMuch)) := ⟨_, rfl⟩
                  have h84 := h84.keep h80 eG36 (by decide)
                  have hlen := (z_len eG36).trans hlen
                  have hsl := (z_sl h80 eG36 rfl).trans hsl
                  have hfr := hfr.wr h80 eG36 (by decide)
                  have h80 := h80.kept eG36
                  change ab_W _ _ _ (List.set G21 80 (ab_ob 12 (mof m_thrown m_taped m_length m_out m_wide m_gathered m_sets m_ranges m_nodes m_at m_flags m_fault m_place m_numbered m_depth m_value m_isNot n23 (-1) m_slot m_work m_got m_rowMany m_charAt m_charWide m_trail m_isMatch m_matchGroups m_allFrom m_allBefore m_founds m_pieces m_writtenMany m_templateWide m_tooMuch))) 158 [some (vR 80), some (vz k222), some (vz n223), some (vz (k22 + 1))] [] _
                  rw [← eG36]
                  refine ab_aload_n d_MO_numbersEnd_158 rfl ?_
                  refine ab_iload_n d_MO_numbersEnd_159 rfl ?_
                  refine ab_callV (d' := d - 1) (as := [vz k222]) (st := []) (r := _) (z_MO_here (o := o) (m_thrown := m_thrown) (m_taped := m_taped) (m_length := m_length) (m_out := m_out) (m_wide := m_wide) (m_gathered := m_gathered) (m_sets := m_sets) (m_ranges := m_ranges) (m_nodes := m_nodes) (m_at := m_at) (m_flags := m_flags) (m_fault := m_fault) (m_place := m_place) (m_numbered := m_numbered) (m_depth := m_depth) (m_value := m_value) (m_isNot := m_isNot) (m_least0 := n23) (m_most0 := (-1)) (m_slot := m_slot) (m_work := m_work) (m_got := m_got) (m_rowMany := m_rowMany) (m_charAt := m_charAt) (m_charWide := m_charWide) (m_trail := m_trail) (m_isMatch := m_isMatch) (m_matchGroups := m_matchGroups) (m_allFrom := m_allFrom) (m_allBefore := m_allBefore) (m_founds := m_founds) (m_pieces := m_pieces) (m_writtenMany := m_writtenMany) (m_templateWide := m_templateWide) (m_tooMuch := m_tooMuch) (A_tape := A_tape) (k := k222) (qh := (m_at + k222)) h80 h84 (by omega) (by omega) jtp (by omega) (by omega)) (fun oc G2 h => by rcases h with ⟨h, _⟩ | ⟨h, _⟩ <;> exact ⟨_, h⟩) (by omega) m_MO_here ml_MO_297 im_MO_here se_MO_here c_MO h80.2.2 (Nat.le_of_ble_eq_true rfl) d_MO_numbersEnd_160 rfl ?_
                  intro v G37 hq
                  rcases hq with ⟨hv, hGe, hq38⟩ | ⟨hv, hGe, hq39, hq40⟩
                  · cases hv
                    rw [hGe]
                    change ab_W _ _ _ G36 163 [some (vR 80), some (vz k222), some (vz n223), some (vz (k22 + 1))] [vz (tpk A_tape m_taped (m_at + k222))] _
                    refine zz_bipush d_MO_numbersEnd_163 (by decide) ?_
                    refine zz_icmp_ne (tgt := 174) d_MO_numbersEnd_165 (by decide) (by omega) (by decide) (fun c41 => ?_) (fun c41 => ?_)
                    · refine zz_iconst d_MO_numbersEnd_174 ?_
                      refine zz_iret rfl d_MO_numbersEnd_175 ?_
                      rw [hQ]; exact (Or.inl ⟨_, _, rfl, hfr, hlen, hsl, h80, (by exact nr_c0 (by omega) hn1_ (by omega) (by have t_ := hq26.resolve_left (by omega); rw [show k222 = (k22 + 1) by omega, show m_at + (k22 + 1) = m_at + k22 + 1 by omega] at t_; exact t_) (by rw [show m_at + k22 + 1 = m_at + k222 by omega]; omega))⟩)
                    · refine ab_iload_n d_MO_numbersEnd_168 rfl ?_
                      refine zz_iconst d_MO_numbersEnd_169 ?_
                      refine zz_iadd d_MO_numbersEnd_170 ?_
                      refine ab_goto (tgt := 175) d_MO_numbersEnd_171 (by decide) ?_
                      refine zz_iret rfl d_MO_numbersEnd_175 ?_
                      rw [hQ]; exact (Or.inr ⟨_, _, _, 1000, rfl, hfr, hlen, hsl, h80, (by omega), (by first | omega | (have t_ := numR_in hn1_; omega) | (have t_ := numR_in hn2_; omega)), (by exact Or.inr (Or.inr (Or.inr ⟨by omega, rfl, _, hn1_, by omega, Or.inr (Or.inl ⟨by omega, (by rw [show m_at + k22 + 1 = m_at + k222 by omega]; omega), rfl, by omega⟩)⟩)))⟩)
                  · cases hv
                    rw [hGe]
                    change ab_W _ _ _ G36 163 [some (vR 80), some (vz k222), some (vz n223), some (vz (k22 + 1))] [vz (-1)] _
                    refine zz_bipush d_MO_numbersEnd_163 (by decide) ?_
                    refine zz_icmp_ne (tgt := 174) d_MO_numbersEnd_165 (by decide) (by decide) (by decide) (fun c42 => ?_) (fun c42 => absurd c42 (by decide))
                    refine zz_iconst d_MO_numbersEnd_174 ?_
                    refine zz_iret rfl d_MO_numbersEnd_175 ?_
                    rw [hQ]; exact (Or.inl ⟨_, _, rfl, hfr, hlen, hsl, h80, (by exact nr_c0 (by omega) hn1_ (by omega) (by have t_ := hq26.resolve_left (by omega); rw [show k222 = (k22 + 1) by omega, show m_at + (k22 + 1) = m_at + k22 + 1 by omega] at t_; exact t_) (by rw [show m_at + k22 + 1 = m_at + k222 by omega]; omega))⟩)
              · refine zz_iconst d_MO_numbersEnd_142 ?_
                refine zz_iret rfl d_MO_numbersEnd_143 ?_
                rw [hQ]; exact (Or.inl ⟨_, _, rfl, hfr, hlen, hsl, h80, (by exact nr_c4 (v := n223) (by omega) hn1_ (by omega) (by have t_ := hq25; rw [show k222 - (k22 + 1) = 4 by omega, show m_at + (k22 + 1) = m_at + k22 + 1 by omega] at t_; exact t_))⟩)
        · cases hv
          rw [hGe]
          change ab_W _ _ _ G10 76 [some (vR 80), some (vz k22), some (vz n23), none] [vz (-1)] _
          refine zz_bipush d_MO_numbersEnd_76 (by decide) ?_
          refine zz_icmp_ne (tgt := 158) d_MO_numbersEnd_78 (by decide) (by decide) (by decide) (fun c43 => ?_) (fun c43 => absurd c43 (by decide))
          refine ab_aload_n d_MO_numbersEnd_158 rfl ?_
          refine ab_iload_n d_MO_numbersEnd_159 rfl ?_
          refine ab_callV (d' := d - 1) (as := [vz k22]) (st := []) (r := _) (z_MO_here (o := o) (m_thrown := m_thrown) (m_taped := m_taped) (m_length := m_length) (m_out := m_out) (m_wide := m_wide) (m_gathered := m_gathered) (m_sets := m_sets) (m_ranges := m_ranges) (m_nodes := m_nodes) (m_at := m_at) (m_flags := m_flags) (m_fault := m_fault) (m_place := m_place) (m_numbered := m_numbered) (m_depth := m_depth) (m_value := m_value) (m_isNot := m_isNot) (m_least0 := n23) (m_most0 := n23) (m_slot := m_slot) (m_work := m_work) (m_got := m_got) (m_rowMany := m_rowMany) (m_charAt := m_charAt) (m_charWide := m_charWide) (m_trail := m_trail) (m_isMatch := m_isMatch) (m_matchGroups := m_matchGroups) (m_allFrom := m_allFrom) (m_allBefore := m_allBefore) (m_founds := m_founds) (m_pieces := m_pieces) (m_writtenMany := m_writtenMany) (m_templateWide := m_templateWide) (m_tooMuch := m_tooMuch) (A_tape := A_tape) (k := k22) (qh := (m_at + k22)) h80 h84 (by omega) (by omega) jtp (by omega) (by omega)) (fun oc G2 h => by rcases h with ⟨h, _⟩ | ⟨h, _⟩ <;> exact ⟨_, h⟩) (by omega) m_MO_here ml_MO_297 im_MO_here se_MO_here c_MO h80.2.2 (Nat.le_of_ble_eq_true rfl) d_MO_numbersEnd_160 rfl ?_
          intro v G44 hq
          rcases hq with ⟨hv, hGe, hq45⟩ | ⟨hv, hGe, hq46, hq47⟩
          · cases hv
            rw [hGe]
            change ab_W _ _ _ G10 163 [some (vR 80), some (vz k22), some (vz n23), none] [vz (tpk A_tape m_taped (m_at + k22))] _
            exfalso; omega
          · cases hv
            rw [hGe]
            change ab_W _ _ _ G10 163 [some (vR 80), some (vz k22), some (vz n23), none] [vz (-1)] _
            refine zz_bipush d_MO_numbersEnd_163 (by decide) ?_
            refine zz_icmp_ne (tgt := 174) d_MO_numbersEnd_165 (by decide) (by decide) (by decide) (fun c48 => ?_) (fun c48 => absurd c48 (by decide))
            refine zz_iconst d_MO_numbersEnd_174 ?_
            refine zz_iret rfl d_MO_numbersEnd_175 ?_
            rw [hQ]; exact (Or.inl ⟨_, _, rfl, hfr, hlen, hsl, h80, (by exact nr_x (by omega) hn1_ (by omega))⟩)
      · refine zz_iconst d_MO_numbersEnd_59 ?_
        refine zz_iret rfl d_MO_numbersEnd_60 ?_
        rw [hQ]; exact (Or.inl ⟨_, _, rfl, hfr, hlen, hsl, h80, (by exact nr_4 (v := n23) (by omega) (by have t_ := hq5; rw [show k22 - 1 = 4 by omega] at t_; exact t_))⟩)
set_option maxRecDepth 100000 in
set_option maxHeartbeats 4000000 in
theorem z_MO_readRepeat {X : ab_X} {d : Nat} {o : Nat → Nat} {G : ab_G} {m_thrown : Int} {m_taped : Int} {m_length : Int} {m_out : Int} {m_wide : Int} {m_gathered : Int} {m_sets : Int} {m_ranges : Int} {m_nodes : Int} {m_at : Int} {m_flags : Int} {m_fault : Int} {m_place : Int} {m_numbered : Int} {m_depth : Int} {m_value : Int} {m_isNot : Int} {m_least0 : Int} {m_most0 : Int} {m_slot : Int} {m_work : Int} {m_got : Int} {m_rowMany : Int} {m_charAt : Int} {m_charWide : Int} {m_trail : Int} {m_isMatch : Int} {m_matchGroups : Int} {m_allFrom : Int} {m_allBefore : Int} {m_founds : Int} {m_pieces : Int} {m_writtenMany : Int} {m_templateWide : Int} {m_tooMuch : Int} {A_tape : Int → Int} {LO : Int → Int} {HI : Int → Int} {MK : Int → Int} {RL : Int → Int} {RH : Int → Int} {NS : Int → Int} {NM : Int → Int} {rp : Int} {ls : Int} {SV : Int → Int → Prop} {ro : Sn} {vv : Sn} {a1_ : Int} {b1_ : Int} {c1_ : Int} {d1_ : Int} {e1_ : Int} {mo9 : Int} {t1_ : List Fr} {ao1_ : Option Sn} {ro1_ : Sn} {ts1_ : List Fs} {na : Int → Int} {nl : Int → Int} {be : Int} {kd9 : Int} (h80 : cc o G 80 280 (ab_ob 12 (mof m_thrown m_taped m_length m_out m_wide m_gathered m_sets m_ranges m_nodes m_at m_flags m_fault m_place m_numbered m_depth m_value m_isNot m_least0 m_most0 m_slot m_work m_got m_rowMany m_charAt m_charWide m_trail m_isMatch m_matchGroups m_allFrom m_allBefore m_founds m_pieces m_writtenMany m_templateWide m_tooMuch))) (h84 : cc o G 84 284 (za 2000 A_tape)) (h87 : cc o G 87 287 (za 9000 LO)) (h88 : cc o G 88 288 (za 9000 HI)) (h93 : cc o G 93 293 (zb 1200 MK)) (h81 : cc o G 81 281 (za 13 tbA)) (h82 : cc o G 82 282 (za 66 tbT)) (h91 : cc o G 91 291 (za 24000 RL)) (h92 : cc o G 92 292 (za 24000 RH)) (h110 : cc o G 110 310 (za 120 NS)) (h111 : cc o G 111 311 (za 10 NM)) (ptrI_0 : trI o G 0 m_nodes m_sets (m_depth + 1) (-1) 0 0 ((a1_, b1_, c1_, d1_, e1_) :: t1_) rp ls 0 SV ((ao1_, ro1_) :: ts1_) ro vv mnI RL RH m_ranges 0 0) (n18 : ab_n0 = 18) (cta : 0 ≤ m_taped ∧ m_taped ≤ 2000) (jtp : rgs A_tape 2000 0 255) (jmk : rgs MK 1200 0 1) (jrl : rgs RL 24000 0 1114111) (jrh : rgs RH 24000 0 1114111) (jns : rgs NS 120 0 255) (jnm : rgs NM 10 0 12) (cf : m_fault = 0) (cat : 0 ≤ m_at ∧ m_at < m_taped) (cpo : 0 ≤ m_nodes ∧ m_nodes + 2 * m_depth + 0 ≤ 2 * m_at ∧ 0 ≤ m_sets ∧ m_sets + 0 ≤ m_at ∧ 0 ≤ m_ranges ∧ m_ranges + 0 ≤ 12 * m_at ∧ 0 ≤ m_depth ∧ m_depth ≤ 30 ∧ 0 ≤ m_numbered ∧ m_numbered ≤ 9 ∧ -2147483648 ≤ m_flags ∧ m_flags ≤ 2147483647 ∧ -2147483648 ≤ m_value ∧ m_value ≤ 2147483647) (cfl : 0 ≤ m_flags ∧ m_flags ≤ 15) (crp : 0 ≤ rp ∧ rp ≤ 1) (jnj : nmJ NS NM A_tape na nl m_numbered) (cbe : 1 ≤ be ∧ m_at + be ≤ m_taped ∧ 0 ≤ m_least0 ∧ m_least0 ≤ 10000 ∧ -1 ≤ m_most0 ∧ m_most0 ≤ 10000) (hm9 : (m_most0 < 0 ∧ mo9 = 1000) ∨ (0 ≤ m_most0 ∧ mo9 = m_most0)) (hm8 : m_most0 < 1000) (hrp : repR A_tape m_taped m_at m_least0 mo9 (m_at + be) kd9) (hd : 4 ≤ d) : ab_F X d y_MO_readRepeat (.code y_MO_readRepeat b_MO_readRepeat 4 none) [vR 80, vz be] G (fun oc G2 => (∃ a2 : Int, ∃ v2 : Int, ∃ nt2 : Int, ∃ w2 : Int, ∃ g2 : Int, ∃ s2 : Int, ∃ r2 : Int, ∃ n2 : Int, ∃ fl2 : Int, ∃ nu2 : Int, ∃ d2 : Int, ∃ le2 : Int, ∃ mo2 : Int, ∃ f2 : Int, ∃ p2 : Int, ∃ LO2 : Int → Int, ∃ HI2 : Int → Int, ∃ MK2 : Int → Int, ∃ RL2 : Int → Int, ∃ RH2 : Int → Int, ∃ NS2 : Int → Int, ∃ NM2 : Int → Int, ∃ fr2 : List Fr, ∃ rp2 : Int, ∃ ls2 : Int, ∃ SV2 : Int → Int → Prop, ∃ FS2 : List Fs, ∃ ro2 : Sn, ∃ vv2 : Sn, ∃ na2 : Int → Int, ∃ nl2 : Int → Int, oc = .returned none ∧ fx o o [280, 287, 288, 293, 291, 292, 310, 311, 294, 295, 296, 297, 298, 299, 300, 301, 290, 289, 305, 306, 307, 308, 309, 302, 303, 304] G G2 ∧ G2.length = G.length ∧ ab_slots G2 = ab_slots G ∧ cc o G2 80 280 (ab_ob 12 (mof m_thrown m_taped m_length m_out w2 g2 s2 r2 n2 a2 fl2 f2 p2 nu2 d2 v2 nt2 le2 mo2 m_slot m_work m_got m_rowMany m_charAt m_charWide m_trail m_isMatch m_matchGroups m_allFrom m_allBefore m_founds m_pieces m_writtenMany m_templateWide m_tooMuch)) ∧ cc o G2 87 287 (za 9000 LO2) ∧ cc o G2 88 288 (za 9000 HI2) ∧ cc o G2 93 293 (zb 1200 MK2) ∧ cc o G2 91 291 (za 24000 RL2) ∧ cc o G2 92 292 (za 24000 RH2) ∧ cc o G2 110 310 (za 120 NS2) ∧ cc o G2 111 311 (za 10 NM2) ∧ trI o G2 0 n2 s2 (d2 + 1) (-1) 0 0 fr2 rp2 ls2 0 SV2 FS2 ro2 vv2 mnI RL2 RH2 r2 0 0 ∧ (f2 = 0 ∧ p2 = m_place ∧ m_at < a2 ∧ a2 ≤ m_taped ∧ 0 ≤ n2 ∧ n2 + 2 * d2 ≤ 2 * a2 ∧ 0 ≤ s2 ∧ s2 ≤ a2 ∧ 0 ≤ r2 ∧ r2 ≤ 12 * a2 ∧ 0 ≤ d2 ∧ d2 ≤ 30 ∧ 0 ≤ nu2 ∧ nu2 ≤ 9 ∧ -2147483648 ≤ fl2 ∧ fl2 ≤ 2147483647 ∧ -2147483648 ≤ v2 ∧ v2 ≤ 2147483647) ∧ (rgs MK2 1200 0 1) ∧ (rgs RL2 24000 0 1114111) ∧ (rgs RH2 24000 0 1114111) ∧ (rgs NS2 120 0 255) ∧ (rgs NM2 10 0 12) ∧ (0 ≤ rp2 ∧ rp2 ≤ 1) ∧ (nmJ NS2 NM2 A_tape na2 nl2 nu2) ∧ (stp A_tape m_taped (m_at, m_flags, m_numbered, na, nl, ((a1_, b1_, c1_, d1_, e1_) :: t1_), rp, ls) (a2, fl2, nu2, na2, nl2, fr2, rp2, ls2)) ∧ (stS A_tape m_taped (m_at, m_flags, m_numbered, na, nl, ((a1_, b1_, c1_, d1_, e1_) :: t1_), rp, ls) (((ao1_, ro1_) :: ts1_), ro, vv) (a2, fl2, nu2, na2, nl2, fr2, rp2, ls2) (FS2, ro2, vv2))) ∨ (∃ a2 : Int, ∃ v2 : Int, ∃ nt2 : Int, ∃ w2 : Int, ∃ g2 : Int, ∃ s2 : Int, ∃ r2 : Int, ∃ n2 : Int, ∃ fl2 : Int, ∃ nu2 : Int, ∃ d2 : Int, ∃ le2 : Int, ∃ mo2 : Int, ∃ f2 : Int, ∃ p2 : Int, ∃ LO2 : Int → Int, ∃ HI2 : Int → Int, ∃ MK2 : Int → Int, ∃ RL2 : Int → Int, ∃ RH2 : Int → Int, ∃ NS2 : Int → Int, ∃ NM2 : Int → Int, ∃ fr2 : List Fr, ∃ rp2 : Int, ∃ ls2 : Int, ∃ SV2 : Int → Int → Prop, ∃ FS2 : List Fs, ∃ ro2 : Sn, ∃ vv2 : Sn, oc = .returned none ∧ fx o o [280, 287, 288, 293, 291, 292, 310, 311, 294, 295, 296, 297, 298, 299, 300, 301, 290, 289, 305, 306, 307, 308, 309, 302, 303, 304] G G2 ∧ G2.length = G.length ∧ ab_slots G2 = ab_slots G ∧ cc o G2 80 280 (ab_ob 12 (mof m_thrown m_taped m_length m_out w2 g2 s2 r2 n2 a2 fl2 f2 p2 nu2 d2 v2 nt2 le2 mo2 m_slot m_work m_got m_rowMany m_charAt m_charWide m_trail m_isMatch m_matchGroups m_allFrom m_allBefore m_founds m_pieces m_writtenMany m_templateWide m_tooMuch)) ∧ cc o G2 87 287 (za 9000 LO2) ∧ cc o G2 88 288 (za 9000 HI2) ∧ cc o G2 93 293 (zb 1200 MK2) ∧ cc o G2 91 291 (za 24000 RL2) ∧ cc o G2 92 292 (za 24000 RH2) ∧ cc o G2 110 310 (za 120 NS2) ∧ cc o G2 111 311 (za 10 NM2) ∧ trI o G2 0 n2 s2 (d2 + 1) (-1) 0 0 fr2 rp2 ls2 0 SV2 FS2 ro2 vv2 mnI RL2 RH2 r2 0 0 ∧ (1 ≤ f2 ∧ f2 ≤ 14 ∧ 0 ≤ a2 ∧ a2 ≤ 4000 ∧ 0 ≤ n2 ∧ n2 ≤ 4200 ∧ 0 ≤ s2 ∧ s2 ≤ 2100 ∧ 0 ≤ r2 ∧ r2 ≤ 24000 ∧ 0 ≤ d2 ∧ d2 ≤ 30 ∧ 0 ≤ nu2 ∧ nu2 ≤ 9 ∧ -2147483648 ≤ fl2 ∧ fl2 ≤ 2147483647 ∧ -2147483648 ≤ v2 ∧ v2 ≤ 2147483647) ∧ (rgs MK2 1200 0 1) ∧ (rgs RL2 24000 0 1114111) ∧ (rgs RH2 24000 0 1114111) ∧ (rgs NS2 120 0 255) ∧ (rgs NM2 10 0 12) ∧ (stF A_tape m_taped (m_at, m_flags, m_numbered, na, nl, ((a1_, b1_, c1_, d1_, e1_) :: t1_), rp, ls) f2 p2))) := by
  refine ab_F_of (by decide +kernel) (Nat.le_of_ble_eq_true rfl) ?_
  obtain ⟨Q, hQ⟩ : ∃ z : Outcome → ab_G → Prop, z = (fun oc G2 => (∃ a2 : Int, ∃ v2 : Int, ∃ nt2 : Int, ∃ w2 : Int, ∃ g2 : Int, ∃ s2 : Int, ∃ r2 : Int, ∃ n2 : Int, ∃ fl2 : Int, ∃ nu2 : Int, ∃ d2 : Int, ∃ le2 : Int, ∃ mo2 : Int, ∃ f2 : Int, ∃ p2 : Int, ∃ LO2 : Int → Int, ∃ HI2 : Int → Int, ∃ MK2 : Int → Int, ∃ RL2 : Int → Int, ∃ RH2 : Int → Int, ∃ NS2 : Int → Int, ∃ NM2 : Int → Int, ∃ fr2 : List Fr, ∃ rp2 : Int, ∃ ls2 : Int, ∃ SV2 : Int → Int → Prop, ∃ FS2 : List Fs, ∃ ro2 : Sn, ∃ vv2 : Sn, ∃ na2 : Int → Int, ∃ nl2 : Int → Int, oc = .returned none ∧ fx o o [280, 287, 288, 293, 291, 292, 310, 311, 294, 295, 296, 297, 298, 299, 300, 301, 290, 289, 305, 306, 307, 308, 309, 302, 303, 304] G G2 ∧ G2.length = G.length ∧ ab_slots G2 = ab_slots G ∧ cc o G2 80 280 (ab_ob 12 (mof m_thrown m_taped m_length m_out w2 g2 s2 r2 n2 a2 fl2 f2 p2 nu2 d2 v2 nt2 le2 mo2 m_slot m_work m_got m_rowMany m_charAt m_charWide m_trail m_isMatch m_matchGroups m_allFrom m_allBefore m_founds m_pieces m_writtenMany m_templateWide m_tooMuch)) ∧ cc o G2 87 287 (za 9000 LO2) ∧ cc o G2 88 288 (za 9000 HI2) ∧ cc o G2 93 293 (zb 1200 MK2) ∧ cc o G2 91 291 (za 24000 RL2) ∧ cc o G2 92 292 (za 24000 RH2) ∧ cc o G2 110 310 (za 120 NS2) ∧ cc o G2 111 311 (za 10 NM2) ∧ trI o G2 0 n2 s2 (d2 + 1) (-1) 0 0 fr2 rp2 ls2 0 SV2 FS2 ro2 vv2 mnI RL2 RH2 r2 0 0 ∧ (f2 = 0 ∧ p2 = m_place ∧ m_at < a2 ∧ a2 ≤ m_taped ∧ 0 ≤ n2 ∧ n2 + 2 * d2 ≤ 2 * a2 ∧ 0 ≤ s2 ∧ s2 ≤ a2 ∧ 0 ≤ r2 ∧ r2 ≤ 12 * a2 ∧ 0 ≤ d2 ∧ d2 ≤ 30 ∧ 0 ≤ nu2 ∧ nu2 ≤ 9 ∧ -2147483648 ≤ fl2 ∧ fl2 ≤ 2147483647 ∧ -2147483648 ≤ v2 ∧ v2 ≤ 2147483647) ∧ (rgs MK2 1200 0 1) ∧ (rgs RL2 24000 0 1114111) ∧ (rgs RH2 24000 0 1114111) ∧ (rgs NS2 120 0 255) ∧ (rgs NM2 10 0 12) ∧ (0 ≤ rp2 ∧ rp2 ≤ 1) ∧ (nmJ NS2 NM2 A_tape na2 nl2 nu2) ∧ (stp A_tape m_taped (m_at, m_flags, m_numbered, na, nl, ((a1_, b1_, c1_, d1_, e1_) :: t1_), rp, ls) (a2, fl2, nu2, na2, nl2, fr2, rp2, ls2)) ∧ (stS A_tape m_taped (m_at, m_flags, m_numbered, na, nl, ((a1_, b1_, c1_, d1_, e1_) :: t1_), rp, ls) (((ao1_, ro1_) :: ts1_), ro, vv) (a2, fl2, nu2, na2, nl2, fr2, rp2, ls2) (FS2, ro2, vv2))) ∨ (∃ a2 : Int, ∃ v2 : Int, ∃ nt2 : Int, ∃ w2 : Int, ∃ g2 : Int, ∃ s2 : Int, ∃ r2 : Int, ∃ n2 : Int, ∃ fl2 : Int, ∃ nu2 : Int, ∃ d2 : Int, ∃ le2 : Int, ∃ mo2 : Int, ∃ f2 : Int, ∃ p2 : Int, ∃ LO2 : Int → Int, ∃ HI2 : Int → Int, ∃ MK2 : Int → Int, ∃ RL2 : Int → Int, ∃ RH2 : Int → Int, ∃ NS2 : Int → Int, ∃ NM2 : Int → Int, ∃ fr2 : List Fr, ∃ rp2 : Int, ∃ ls2 : Int, ∃ SV2 : Int → Int → Prop, ∃ FS2 : List Fs, ∃ ro2 : Sn, ∃ vv2 : Sn, oc = .returned none ∧ fx o o [280, 287, 288, 293, 291, 292, 310, 311, 294, 295, 296, 297, 298, 299, 300, 301, 290, 289, 305, 306, 307, 308, 309, 302, 303, 304] G G2 ∧ G2.length = G.length ∧ ab_slots G2 = ab_slots G ∧ cc o G2 80 280 (ab_ob 12 (mof m_thrown m_taped m_length m_out w2 g2 s2 r2 n2 a2 fl2 f2 p2 nu2 d2 v2 nt2 le2 mo2 m_slot m_work m_got m_rowMany m_charAt m_charWide m_trail m_isMatch m_matchGroups m_allFrom m_allBefore m_founds m_pieces m_writtenMany m_templateWide m_tooMuch)) ∧ cc o G2 87 287 (za 9000 LO2) ∧ cc o G2 88 288 (za 9000 HI2) ∧ cc o G2 93 293 (zb 1200 MK2) ∧ cc o G2 91 291 (za 24000 RL2) ∧ cc o G2 92 292 (za 24000 RH2) ∧ cc o G2 110 310 (za 120 NS2) ∧ cc o G2 111 311 (za 10 NM2) ∧ trI o G2 0 n2 s2 (d2 + 1) (-1) 0 0 fr2 rp2 ls2 0 SV2 FS2 ro2 vv2 mnI RL2 RH2 r2 0 0 ∧ (1 ≤ f2 ∧ f2 ≤ 14 ∧ 0 ≤ a2 ∧ a2 ≤ 4000 ∧ 0 ≤ n2 ∧ n2 ≤ 4200 ∧ 0 ≤ s2 ∧ s2 ≤ 2100 ∧ 0 ≤ r2 ∧ r2 ≤ 24000 ∧ 0 ≤ d2 ∧ d2 ≤ 30 ∧ 0 ≤ nu2 ∧ nu2 ≤ 9 ∧ -2147483648 ≤ fl2 ∧ fl2 ≤ 2147483647 ∧ -2147483648 ≤ v2 ∧ v2 ≤ 2147483647) ∧ (rgs MK2 1200 0 1) ∧ (rgs RL2 24000 0 1114111) ∧ (rgs RH2 24000 0 1114111) ∧ (rgs NS2 120 0 255) ∧ (rgs NM2 10 0 12) ∧ (stF A_tape m_taped (m_at, m_flags, m_numbered, na, nl, ((a1_, b1_, c1_, d1_, e1_) :: t1_), rp, ls) f2 p2))) := ⟨_, rfl⟩
  rw [← hQ]
  change ab_W X (ab_pl y_MO_readRepeat b_MO_readRepeat 4 none) d G 0 [some (vR 80), some (vz be), none, none] [] Q
  have hfr : fx o o [280, 287, 288, 293, 291, 292, 310, 311, 294, 295, 296, 297, 298, 299, 300, 301, 290, 289, 305, 306, 307, 308, 309, 302, 303, 304] G G := fx.rf
  have hlen : G.length = G.length := rfl
  have hsl : ab_slots G = ab_slots G := rfl
  refine ab_aload_n d_MO_readRepeat_0 rfl ?_
  refine ab_getf (fs := mof m_thrown m_taped m_length m_out m_wide m_gathered m_sets m_ranges m_nodes m_at m_flags m_fault m_place m_numbered m_depth m_value m_isNot m_least0 m_most0 m_slot m_work m_got m_rowMany m_charAt m_charWide m_trail m_isMatch m_matchGroups m_allFrom m_allBefore m_founds m_pieces m_writtenMany m_templateWide m_tooMuch) f_MO_279 d_MO_readRepeat_1 h80.2.2 rfl ?_
  refine ab_istore_n d_MO_readRepeat_4 (Nat.le_of_ble_eq_true rfl) (Nat.le_of_ble_eq_true rfl) rfl ?_
  change ab_W _ _ _ G 5 [some (vR 80), some (vz be), some (vz m_at), none] [] _
  obtain ⟨K, O, Fi, Be, Le, Mo, Z, LZ, SM, SA, QF, QL, AF, AL, SD, OA, OF, ON, h94, h95, h96, h97, h98, h99, h100, h101, h90, h89, h105, h106, h107, h108, h109, h102, h103, h104, jk, jo, jfi, jbe, jle, jmo, jz, jlz, jsm, jsa, jqf, jql, jaf, jal, jsd, joa, jof, jon, jt, cnd, cre, crs, crz, ck5, ck6, ck7, jss, jsv⟩ := ptrI_0
  have hrq_ := jt.j.rq (by omega)
  rw [show m_depth + 1 - 1 = m_depth by omega] at hrq_
  refine ab_aload_n d_MO_readRepeat_5 rfl ?_
  refine ab_getf (fs := mof m_thrown m_taped m_length m_out m_wide m_gathered m_sets m_ranges m_nodes m_at m_flags m_fault m_place m_numbered m_depth m_value m_isNot m_least0 m_most0 m_slot m_work m_got m_rowMany m_charAt m_charWide m_trail m_isMatch m_matchGroups m_allFrom m_allBefore m_founds m_pieces m_writtenMany m_templateWide m_tooMuch) f_MO_100 d_MO_readRepeat_6 h80.2.2 rfl ?_
  refine ab_aload_n d_MO_readRepeat_9 rfl ?_
  refine ab_getf (fs := mof m_thrown m_taped m_length m_out m_wide m_gathered m_sets m_ranges m_nodes m_at m_flags m_fault m_place m_numbered m_depth m_value m_isNot m_least0 m_most0 m_slot m_work m_got m_rowMany m_charAt m_charWide m_trail m_isMatch m_matchGroups m_allFrom m_allBefore m_founds m_pieces m_writtenMany m_templateWide m_tooMuch) f_MO_282 d_MO_readRepeat_10 h80.2.2 rfl ?_
  refine zz_iald d_MO_readRepeat_13 h109 (by omega) ?_
  have hq1 := jsd m_depth (by omega) (by omega)
  refine zz_iconst d_MO_readRepeat_14 ?_
  refine zz_icmp_eq (tgt := 28) d_MO_readRepeat_15 (by decide) (by omega) (by decide) (fun c2 => ?_) (fun c2 => ?_)
  · refine ab_aload_n d_MO_readRepeat_28 rfl ?_
    refine ab_getf (fs := mof m_thrown m_taped m_length m_out m_wide m_gathered m_sets m_ranges m_nodes m_at m_flags m_fault m_place m_numbered m_depth m_value m_isNot m_least0 m_most0 m_slot m_work m_got m_rowMany m_charAt m_charWide m_trail m_isMatch m_matchGroups m_allFrom m_allBefore m_founds m_pieces m_writtenMany m_templateWide m_tooMuch) f_MO_403 d_MO_readRepeat_29 h80.2.2 rfl ?_
    refine zz_bipush d_MO_readRepeat_32 (by decide) ?_
    refine zz_icmp_gt (tgt := 64) d_MO_readRepeat_34 (by decide) (by omega) (by decide) (fun c3 => ?_) (fun c3 => ?_)
    · refine ab_aload_n d_MO_readRepeat_64 rfl ?_
      refine zz_bipush d_MO_readRepeat_65 (by decide) ?_
      refine ab_iload_n d_MO_readRepeat_67 rfl ?_
      refine ab_callV (d' := d - 1) (as := [vz 9, vz m_at]) (st := []) (r := _) (z_MO_wrong (o := o) (m_thrown := m_thrown) (m_taped := m_taped) (m_length := m_length) (m_out := m_out) (m_wide := m_wide) (m_gathered := m_gathered) (m_sets := m_sets) (m_ranges := m_ranges) (m_nodes := m_nodes) (m_at := m_at) (m_flags := m_flags) (m_fault := m_fault) (m_place := m_place) (m_numbered := m_numbered) (m_depth := m_depth) (m_value := m_value) (m_isNot := m_isNot) (m_least0 := m_least0) (m_most0 := m_most0) (m_slot := m_slot) (m_work := m_work) (m_got := m_got) (m_rowMany := m_rowMany) (m_charAt := m_charAt) (m_charWide := m_charWide) (m_trail := m_trail) (m_isMatch := m_isMatch) (m_matchGroups := m_matchGroups) (m_allFrom := m_allFrom) (m_allBefore := m_allBefore) (m_founds := m_founds) (m_pieces := m_pieces) (m_writtenMany := m_writtenMany) (m_templateWide := m_templateWide) (m_tooMuch := m_tooMuch) (x := 9) (y := m_at) h80 (by omega) (by omega)) (fun oc G2 h => by rcases h with ⟨h, _⟩ | ⟨h, _⟩ <;> exact ⟨_, h⟩) (by omega) m_MO_wrong ml_MO_304 im_MO_wrong se_MO_wrong c_MO h80.2.2 (Nat.le_of_ble_eq_true rfl) d_MO_readRepeat_68 rfl ?_
      intro v G4 hq
      rcases hq with ⟨hv, hfk, hlk, hsk, hN80, hq5⟩ | ⟨hv, hGe, hq6⟩
      · cases hv
        have h84 := hfk.get h84 (by decide)
        have h87 := hfk.get h87 (by decide)
        have h88 := hfk.get h88 (by decide)
        have h93 := hfk.get h93 (by decide)
        have h81 := hfk.get h81 (by decide)
        have h82 := hfk.get h82 (by decide)
        have h91 := hfk.get h91 (by decide)
        have h92 := hfk.get h92 (by decide)
        have h110 := hfk.get h110 (by decide)
        have h111 := hfk.get h111 (by decide)
        have h94 := hfk.get h94 (by decide)
        have h95 := hfk.get h95 (by decide)
        have h96 := hfk.get h96 (by decide)
        have h97 := hfk.get h97 (by decide)
        have h98 := hfk.get h98 (by decide)
        have h99 := hfk.get h99 (by decide)
        have h100 := hfk.get h100 (by decide)
        have h101 := hfk.get h101 (by decide)
        have h90 := hfk.get h90 (by decide)
        have h89 := hfk.get h89 (by decide)
        have h105 := hfk.get h105 (by decide)
        have h106 := hfk.get h106 (by decide)
        have h107 := hfk.get h107 (by decide)
        have h108 := hfk.get h108 (by decide)
        have h109 := hfk.get h109 (by decide)
        have h102 := hfk.get h102 (by decide)
        have h103 := hfk.get h103 (by decide)
        have h104 := hfk.get h104 (by decide)
        have hfr := hfr.tr hfk (by decide)
        have hlen := hlk.trans hlen
        have hsl := hsk.trans hsl
        have h80 := hN80
        change ab_W _ _ _ G4 71 [some (vR 80), some (vz be), some (vz m_at), none] [] _
        refine ab_aload_n d_MO_readRepeat_71 rfl ?_
        refine ab_getf (fs := mof m_thrown m_taped m_length m_out m_wide m_gathered m_sets m_ranges m_nodes m_at m_flags 9 m_at m_numbered m_depth m_value m_isNot m_least0 m_most0 m_slot m_work m_got m_rowMany m_charAt m_charWide m_trail m_isMatch m_matchGroups m_allFrom m_allBefore m_founds m_pieces m_writtenMany m_templateWide m_tooMuch) f_MO_273 d_MO_readRepeat_72 h80.2.2 rfl ?_
        refine zz_if_le (tgt := 79) d_MO_readRepeat_75 (by decide) (by decide) (fun c7 => absurd c7 (by decide)) (fun c7 => ?_)
        have ptrI_0 : trI o G4 0 m_nodes m_sets (m_depth + 1) (-1) 0 0 ((a1_, b1_, c1_, d1_, e1_) :: t1_) rp ls 0 SV ((ao1_, ro1_) :: ts1_) ro vv mnI RL RH m_ranges 0 0 := ⟨K, O, Fi, Be, Le, Mo, Z, LZ, SM, SA, QF, QL, AF, AL, SD, OA, OF, ON, h94, h95, h96, h97, h98, h99, h100, h101, h90, h89, h105, h106, h107, h108, h109, h102, h103, h104, jk, jo, jfi, jbe, jle, jmo, jz, jlz, jsm, jsa, jqf, jql, jaf, jal, jsd, joa, jof, jon, jt, (by omega), (fun h => absurd h (by decide)), (fun h => absurd h (by decide)), (fun h => absurd h (by decide)), (fun h => absurd h (by decide)), (fun h => absurd h (by decide)), (fun h => absurd h (by decide)), jss, jsv⟩
        refine ab_vret rfl d_MO_readRepeat_78 ?_
        rw [hQ]; exact (Or.inr ⟨_, _, _, _, _, _, _, _, _, _, _, _, _, _, _, _, _, _, _, _, _, _, ((a1_, b1_, c1_, d1_, e1_) :: t1_), rp, ls, SV, ((ao1_, ro1_) :: ts1_), ro, vv, rfl, hfr, hlen, hsl, h80, h87, h88, h93, h91, h92, h110, h111, ptrI_0, (by omega), (by first | exact jmk | exact rgs_w jmk (by omega)), (by first | exact jrl | exact rgs_w jrl (by omega)), (by first | exact jrh | exact rgs_w jrh (by omega)), (by first | exact jns | exact rgs_w jns (by omega)), (by first | exact jnm | exact rgs_w jnm (by omega)), (by exact sf_9 (by omega) hrp (by unfold tooR; omega))⟩)
      · cases hv
        rw [hGe]
        change ab_W _ _ _ G 71 [some (vR 80), some (vz be), some (vz m_at), none] [] _
        exfalso; omega
    · refine ab_aload_n d_MO_readRepeat_37 rfl ?_
      refine ab_getf (fs := mof m_thrown m_taped m_length m_out m_wide m_gathered m_sets m_ranges m_nodes m_at m_flags m_fault m_place m_numbered m_depth m_value m_isNot m_least0 m_most0 m_slot m_work m_got m_rowMany m_charAt m_charWide m_trail m_isMatch m_matchGroups m_allFrom m_allBefore m_founds m_pieces m_writtenMany m_templateWide m_tooMuch) f_MO_406 d_MO_readRepeat_38 h80.2.2 rfl ?_
      refine zz_bipush d_MO_readRepeat_41 (by decide) ?_
      refine zz_icmp_gt (tgt := 64) d_MO_readRepeat_43 (by decide) (by omega) (by decide) (fun c8 => ?_) (fun c8 => ?_)
      · refine ab_aload_n d_MO_readRepeat_64 rfl ?_
        refine zz_bipush d_MO_readRepeat_65 (by decide) ?_
        refine ab_iload_n d_MO_readRepeat_67 rfl ?_
        refine ab_callV (d' := d - 1) (as := [vz 9, vz m_at]) (st := []) (r := _) (z_MO_wrong (o := o) (m_thrown := m_thrown) (m_taped := m_taped) (m_length := m_length) (m_out := m_out) (m_wide := m_wide) (m_gathered := m_gathered) (m_sets := m_sets) (m_ranges := m_ranges) (m_nodes := m_nodes) (m_at := m_at) (m_flags := m_flags) (m_fault := m_fault) (m_place := m_place) (m_numbered := m_numbered) (m_depth := m_depth) (m_value := m_value) (m_isNot := m_isNot) (m_least0 := m_least0) (m_most0 := m_most0) (m_slot := m_slot) (m_work := m_work) (m_got := m_got) (m_rowMany := m_rowMany) (m_charAt := m_charAt) (m_charWide := m_charWide) (m_trail := m_trail) (m_isMatch := m_isMatch) (m_matchGroups := m_matchGroups) (m_allFrom := m_allFrom) (m_allBefore := m_allBefore) (m_founds := m_founds) (m_pieces := m_pieces) (m_writtenMany := m_writtenMany) (m_templateWide := m_templateWide) (m_tooMuch := m_tooMuch) (x := 9) (y := m_at) h80 (by omega) (by omega)) (fun oc G2 h => by rcases h with ⟨h, _⟩ | ⟨h, _⟩ <;> exact ⟨_, h⟩) (by omega) m_MO_wrong ml_MO_304 im_MO_wrong se_MO_wrong c_MO h80.2.2 (Nat.le_of_ble_eq_true rfl) d_MO_readRepeat_68 rfl ?_
        intro v G9 hq
        rcases hq with ⟨hv, hfk, hlk, hsk, hN80, hq10⟩ | ⟨hv, hGe, hq11⟩
        · cases hv
          have h84 := hfk.get h84 (by decide)
          have h87 := hfk.get h87 (by decide)
          have h88 := hfk.get h88 (by decide)
          have h93 := hfk.get h93 (by decide)
          have h81 := hfk.get h81 (by decide)
          have h82 := hfk.get h82 (by decide)
          have h91 := hfk.get h91 (by decide)
          have h92 := hfk.get h92 (by decide)
          have h110 := hfk.get h110 (by decide)
          have h111 := hfk.get h111 (by decide)
          have h94 := hfk.get h94 (by decide)
          have h95 := hfk.get h95 (by decide)
          have h96 := hfk.get h96 (by decide)
          have h97 := hfk.get h97 (by decide)
          have h98 := hfk.get h98 (by decide)
          have h99 := hfk.get h99 (by decide)
          have h100 := hfk.get h100 (by decide)
          have h101 := hfk.get h101 (by decide)
          have h90 := hfk.get h90 (by decide)
          have h89 := hfk.get h89 (by decide)
          have h105 := hfk.get h105 (by decide)
          have h106 := hfk.get h106 (by decide)
          have h107 := hfk.get h107 (by decide)
          have h108 := hfk.get h108 (by decide)
          have h109 := hfk.get h109 (by decide)
          have h102 := hfk.get h102 (by decide)
          have h103 := hfk.get h103 (by decide)
          have h104 := hfk.get h104 (by decide)
          have hfr := hfr.tr hfk (by decide)
          have hlen := hlk.trans hlen
          have hsl := hsk.trans hsl
          have h80 := hN80
          change ab_W _ _ _ G9 71 [some (vR 80), some (vz be), some (vz m_at), none] [] _
          refine ab_aload_n d_MO_readRepeat_71 rfl ?_
          refine ab_getf (fs := mof m_thrown m_taped m_length m_out m_wide m_gathered m_sets m_ranges m_nodes m_at m_flags 9 m_at m_numbered m_depth m_value m_isNot m_least0 m_most0 m_slot m_work m_got m_rowMany m_charAt m_charWide m_trail m_isMatch m_matchGroups m_allFrom m_allBefore m_founds m_pieces m_writtenMany m_templateWide m_tooMuch) f_MO_273 d_MO_readRepeat_72 h80.2.2 rfl ?_
          refine zz_if_le (tgt := 79) d_MO_readRepeat_75 (by decide) (by decide) (fun c12 => absurd c12 (by decide)) (fun c12 => ?_)
          have ptrI_0 : trI o G9 0 m_nodes m_sets (m_depth + 1) (-1) 0 0 ((a1_, b1_, c1_, d1_, e1_) :: t1_) rp ls 0 SV ((ao1_, ro1_) :: ts1_) ro vv mnI RL RH m_ranges 0 0 := ⟨K, O, Fi, Be, Le, Mo, Z, LZ, SM, SA, QF, QL, AF, AL, SD, OA, OF, ON, h94, h95, h96, h97, h98, h99, h100, h101, h90, h89, h105, h106, h107, h108, h109, h102, h103, h104, jk, jo, jfi, jbe, jle, jmo, jz, jlz, jsm, jsa, jqf, jql, jaf, jal, jsd, joa, jof, jon, jt, (by omega), (fun h => absurd h (by decide)), (fun h => absurd h (by decide)), (fun h => absurd h (by decide)), (fun h => absurd h (by decide)), (fun h => absurd h (by decide)), (fun h => absurd h (by decide)), jss, jsv⟩
          refine ab_vret rfl d_MO_readRepeat_78 ?_
          rw [hQ]; exact (Or.inr ⟨_, _, _, _, _, _, _, _, _, _, _, _, _, _, _, _, _, _, _, _, _, _, ((a1_, b1_, c1_, d1_, e1_) :: t1_), rp, ls, SV, ((ao1_, ro1_) :: ts1_), ro, vv, rfl, hfr, hlen, hsl, h80, h87, h88, h93, h91, h92, h110, h111, ptrI_0, (by omega), (by first | exact jmk | exact rgs_w jmk (by omega)), (by first | exact jrl | exact rgs_w jrl (by omega)), (by first | exact jrh | exact rgs_w jrh (by omega)), (by first | exact jns | exact rgs_w jns (by omega)), (by first | exact jnm | exact rgs_w jnm (by omega)), (by exact sf_9 (by omega) hrp (by unfold tooR; omega))⟩)
        · cases hv
          rw [hGe]
          change ab_W _ _ _ G 71 [some (vR 80), some (vz be), some (vz m_at), none] [] _
          exfalso; omega
      · refine ab_aload_n d_MO_readRepeat_46 rfl ?_
        refine ab_getf (fs := mof m_thrown m_taped m_length m_out m_wide m_gathered m_sets m_ranges m_nodes m_at m_flags m_fault m_place m_numbered m_depth m_value m_isNot m_least0 m_most0 m_slot m_work m_got m_rowMany m_charAt m_charWide m_trail m_isMatch m_matchGroups m_allFrom m_allBefore m_founds m_pieces m_writtenMany m_templateWide m_tooMuch) f_MO_406 d_MO_readRepeat_47 h80.2.2 rfl ?_
        refine zz_if_lt (tgt := 71) d_MO_readRepeat_50 (by decide) (by omega) (fun c13 => ?_) (fun c13 => ?_)
        · refine ab_aload_n d_MO_readRepeat_71 rfl ?_
          refine ab_getf (fs := mof m_thrown m_taped m_length m_out m_wide m_gathered m_sets m_ranges m_nodes m_at m_flags m_fault m_place m_numbered m_depth m_value m_isNot m_least0 m_most0 m_slot m_work m_got m_rowMany m_charAt m_charWide m_trail m_isMatch m_matchGroups m_allFrom m_allBefore m_founds m_pieces m_writtenMany m_templateWide m_tooMuch) f_MO_273 d_MO_readRepeat_72 h80.2.2 rfl ?_
          refine zz_if_le (tgt := 79) d_MO_readRepeat_75 (by decide) (by omega) (fun c14 => ?_) (fun c14 => absurd c14 (by omega))
          have hr1_ : rp = 1 := by omega
          rw [hr1_] at jt
          have ptrI_0 : trI o G 0 m_nodes m_sets (m_depth + 1) (-1) 0 2 ((a1_, b1_, c1_, d1_, e1_) :: t1_) 1 ls 0 SV ((ao1_, ro1_) :: ts1_) ro vv mnI RL RH m_ranges 0 0 := ⟨K, O, Fi, Be, Le, Mo, Z, LZ, SM, SA, QF, QL, AF, AL, SD, OA, OF, ON, h94, h95, h96, h97, h98, h99, h100, h101, h90, h89, h105, h106, h107, h108, h109, h102, h103, h104, jk, jo, jfi, jbe, jle, jmo, jz, jlz, jsm, jsa, jqf, jql, jaf, jal, jsd, joa, jof, jon, jt, (by omega), (fun h => absurd h (by decide)), (fun _ => by rw [show m_depth + 1 - 1 = m_depth by omega]; omega), (fun h => absurd h (by decide)), (fun h => absurd h (by decide)), (fun h => absurd h (by decide)), (fun h => absurd h (by decide)), jss, jsv⟩
          refine ab_aload_n d_MO_readRepeat_79 rfl ?_
          refine ab_dup d_MO_readRepeat_80 rfl ?_
          refine ab_getf (fs := mof m_thrown m_taped m_length m_out m_wide m_gathered m_sets m_ranges m_nodes m_at m_flags m_fault m_place m_numbered m_depth m_value m_isNot m_least0 m_most0 m_slot m_work m_got m_rowMany m_charAt m_charWide m_trail m_isMatch m_matchGroups m_allFrom m_allBefore m_founds m_pieces m_writtenMany m_templateWide m_tooMuch) f_MO_279 d_MO_readRepeat_81 h80.2.2 rfl ?_
          refine ab_iload_n d_MO_readRepeat_84 rfl ?_
          refine zz_iadd d_MO_readRepeat_85 ?_
          refine ab_putf (fs := mof m_thrown m_taped m_length m_out m_wide m_gathered m_sets m_ranges m_nodes m_at m_flags m_fault m_place m_numbered m_depth m_value m_isNot m_least0 m_most0 m_slot m_work m_got m_rowMany m_charAt m_charWide m_trail m_isMatch m_matchGroups m_allFrom m_allBefore m_founds m_pieces m_writtenMany m_templateWide m_tooMuch) f_MO_279 (Or.inl rfl) d_MO_readRepeat_86 h80.2.2 (Nat.le_of_ble_eq_true rfl) (fun _ => ⟨rfl, rfl⟩) (h80.2.1 (by decide)) ?_
          obtain ⟨G15, eG15⟩ : ∃ z : ab_G, z = List.set G 80 (ab_ob 12 (mof m_thrown m_taped m_length m_out m_wide m_gathered m_sets m_ranges m_nodes (m_at + be) m_flags m_fault m_place m_numbered m_depth m_value m_isNot m_least0 m_most0 m_slot m_work m_got m_rowMany m_charAt m_charWide m_trail m_isMatch m_matchGroups m_allFrom m_allBefore m_founds m_pieces m_writtenMany m_templateWide m_tooMuch)) := ⟨_, rfl⟩
          have h84 := h84.keep h80 eG15 (by decide)
          have h87 := h87.keep h80 eG15 (by decide)
          have h88 := h88.keep h80 eG15 (by decide)
          have h93 := h93.keep h80 eG15 (by decide)
          have h81 := h81.keep h80 eG15 (by decide)
          have h82 := h82.keep h80 eG15 (by decide)
          have h91 := h91.keep h80 eG15 (by decide)
          have h92 := h92.keep h80 eG15 (by decide)
          have h110 := h110.keep h80 eG15 (by decide)
          have h111 := h111.keep h80 eG15 (by decide)
          have hst := (fx.rf (o := o) (S := [280]) (G := G)).wr h80 eG15 (List.mem_singleton.mpr rfl)
          have ptrI_0 := trI.fr hst ptrI_0 (by decide) (by decide) (by decide) (by decide) (by decide) (by decide) (by decide) (by decide) (by decide) (by decide) (by decide) (by decide) (by decide) (by decide) (by decide) (by decide) (by decide) (by decide)
          have hlen := (z_len eG15).trans hlen
          have hsl := (z_sl h80 eG15 rfl).trans hsl
          have hfr := hfr.wr h80 eG15 (by decide)
          have h80 := h80.kept eG15
          change ab_W _ _ _ (List.set G 80 (ab_ob 12 (mof m_thrown m_taped m_length m_out m_wide m_gathered m_sets m_ranges m_nodes (m_at + be) m_flags m_fault m_place m_numbered m_depth m_value m_isNot m_least0 m_most0 m_slot m_work m_got m_rowMany m_charAt m_charWide m_trail m_isMatch m_matchGroups m_allFrom m_allBefore m_founds m_pieces m_writtenMany m_templateWide m_tooMuch))) 89 [some (vR 80), some (vz be), some (vz m_at), none] [] _
          rw [← eG15]
          refine ab_aload_n d_MO_readRepeat_89 rfl ?_
          refine zz_iconst d_MO_readRepeat_90 ?_
          refine ab_callV (d' := d - 1) (as := [vz 0]) (st := []) (r := _) (z_MO_here (o := o) (m_thrown := m_thrown) (m_taped := m_taped) (m_length := m_length) (m_out := m_out) (m_wide := m_wide) (m_gathered := m_gathered) (m_sets := m_sets) (m_ranges := m_ranges) (m_nodes := m_nodes) (m_at := (m_at + be)) (m_flags := m_flags) (m_fault := m_fault) (m_place := m_place) (m_numbered := m_numbered) (m_depth := m_depth) (m_value := m_value) (m_isNot := m_isNot) (m_least0 := m_least0) (m_most0 := m_most0) (m_slot := m_slot) (m_work := m_work) (m_got := m_got) (m_rowMany := m_rowMany) (m_charAt := m_charAt) (m_charWide := m_charWide) (m_trail := m_trail) (m_isMatch := m_isMatch) (m_matchGroups := m_matchGroups) (m_allFrom := m_allFrom) (m_allBefore := m_allBefore) (m_founds := m_founds) (m_pieces := m_pieces) (m_writtenMany := m_writtenMany) (m_templateWide := m_templateWide) (m_tooMuch := m_tooMuch) (A_tape := A_tape) (k := 0) (qh := (m_at + be)) h80 h84 (by omega) (by omega) jtp (by omega) (by omega)) (fun oc G2 h => by rcases h with ⟨h, _⟩ | ⟨h, _⟩ <;> exact ⟨_, h⟩) (by omega) m_MO_here ml_MO_297 im_MO_here se_MO_here c_MO h80.2.2 (Nat.le_of_ble_eq_true rfl) d_MO_readRepeat_91 rfl ?_
          intro v G16 hq
          rcases hq with ⟨hv, hGe, hq17⟩ | ⟨hv, hGe, hq18, hq19⟩
          · cases hv
            rw [hGe]
            change ab_W _ _ _ G15 94 [some (vR 80), some (vz be), some (vz m_at), none] [vz (tpk A_tape m_taped (m_at + be))] _
            refine zz_bipush d_MO_readRepeat_94 (by decide) ?_
            refine zz_icmp_ne (tgt := 103) d_MO_readRepeat_96 (by decide) (by omega) (by decide) (fun c20 => ?_) (fun c20 => ?_)
            · refine zz_iconst d_MO_readRepeat_103 ?_
              refine ab_istore_n d_MO_readRepeat_104 (Nat.le_of_ble_eq_true rfl) (Nat.le_of_ble_eq_true rfl) rfl ?_
              change ab_W _ _ _ G15 105 [some (vR 80), some (vz be), some (vz m_at), some (vz 0)] [] _
              refine ab_aload_n d_MO_readRepeat_105 rfl ?_
              refine ab_dup d_MO_readRepeat_106 rfl ?_
              refine ab_getf (fs := mof m_thrown m_taped m_length m_out m_wide m_gathered m_sets m_ranges m_nodes (m_at + be) m_flags m_fault m_place m_numbered m_depth m_value m_isNot m_least0 m_most0 m_slot m_work m_got m_rowMany m_charAt m_charWide m_trail m_isMatch m_matchGroups m_allFrom m_allBefore m_founds m_pieces m_writtenMany m_templateWide m_tooMuch) f_MO_279 d_MO_readRepeat_107 h80.2.2 rfl ?_
              refine ab_iload_n d_MO_readRepeat_110 rfl ?_
              refine zz_if_eq (tgt := 118) d_MO_readRepeat_111 (by decide) (by decide) (fun c21 => ?_) (fun c21 => absurd c21 (by decide))
              refine zz_iconst d_MO_readRepeat_118 ?_
              refine zz_iadd d_MO_readRepeat_119 ?_
              refine ab_putf (fs := mof m_thrown m_taped m_length m_out m_wide m_gathered m_sets m_ranges m_nodes (m_at + be) m_flags m_fault m_place m_numbered m_depth m_value m_isNot m_least0 m_most0 m_slot m_work m_got m_rowMany m_charAt m_charWide m_trail m_isMatch m_matchGroups m_allFrom m_allBefore m_founds m_pieces m_writtenMany m_templateWide m_tooMuch) f_MO_279 (Or.inl rfl) d_MO_readRepeat_120 h80.2.2 (Nat.le_of_ble_eq_true rfl) (fun _ => ⟨rfl, rfl⟩) (h80.2.1 (by decide)) ?_
              obtain ⟨G22, eG22⟩ : ∃ z : ab_G, z = List.set G15 80 (ab_ob 12 (mof m_thrown m_taped m_length m_out m_wide m_gathered m_sets m_ranges m_nodes ((m_at + be) + 0) m_flags m_fault m_place m_numbered m_depth m_value m_isNot m_least0 m_most0 m_slot m_work m_got m_rowMany m_charAt m_charWide m_trail m_isMatch m_matchGroups m_allFrom m_allBefore m_founds m_pieces m_writtenMany m_templateWide m_tooMuch)) := ⟨_, rfl⟩
              have h84 := h84.keep h80 eG22 (by decide)
              have h87 := h87.keep h80 eG22 (by decide)
              have h88 := h88.keep h80 eG22 (by decide)
              have h93 := h93.keep h80 eG22 (by decide)
              have h81 := h81.keep h80 eG22 (by decide)
              have h82 := h82.keep h80 eG22 (by decide)
              have h91 := h91.keep h80 eG22 (by decide)
              have h92 := h92.keep h80 eG22 (by decide)
              have h110 := h110.keep h80 eG22 (by decide)
              have h111 := h111.keep h80 eG22 (by decide)
              have hst := (fx.rf (o := o) (S := [280]) (G := G15)).wr h80 eG22 (List.mem_singleton.mpr rfl)
              have ptrI_0 := trI.fr hst ptrI_0 (by decide) (by decide) (by decide) (by decide) (by decide) (by decide) (by decide) (by decide) (by decide) (by decide) (by decide) (by decide) (by decide) (by decide) (by decide) (by decide) (by decide) (by decide)
              have hlen := (z_len eG22).trans hlen
              have hsl := (z_sl h80 eG22 rfl).trans hsl
              have hfr := hfr.wr h80 eG22 (by decide)
              have h80 := h80.kept eG22
              change ab_W _ _ _ (List.set G15 80 (ab_ob 12 (mof m_thrown m_taped m_length m_out m_wide m_gathered m_sets m_ranges m_nodes ((m_at + be) + 0) m_flags m_fault m_place m_numbered m_depth m_value m_isNot m_least0 m_most0 m_slot m_work m_got m_rowMany m_charAt m_charWide m_trail m_isMatch m_matchGroups m_allFrom m_allBefore m_founds m_pieces m_writtenMany m_templateWide m_tooMuch))) 123 [some (vR 80), some (vz be), some (vz m_at), some (vz 0)] [] _
              rw [← eG22]
              refine ab_aload_n d_MO_readRepeat_123 rfl ?_
              refine ab_aload_n d_MO_readRepeat_124 rfl ?_
              refine ab_getf (fs := mof m_thrown m_taped m_length m_out m_wide m_gathered m_sets m_ranges m_nodes ((m_at + be) + 0) m_flags m_fault m_place m_numbered m_depth m_value m_isNot m_least0 m_most0 m_slot m_work m_got m_rowMany m_charAt m_charWide m_trail m_isMatch m_matchGroups m_allFrom m_allBefore m_founds m_pieces m_writtenMany m_templateWide m_tooMuch) f_MO_403 d_MO_readRepeat_125 h80.2.2 rfl ?_
              refine ab_aload_n d_MO_readRepeat_128 rfl ?_
              refine ab_getf (fs := mof m_thrown m_taped m_length m_out m_wide m_gathered m_sets m_ranges m_nodes ((m_at + be) + 0) m_flags m_fault m_place m_numbered m_depth m_value m_isNot m_least0 m_most0 m_slot m_work m_got m_rowMany m_charAt m_charWide m_trail m_isMatch m_matchGroups m_allFrom m_allBefore m_founds m_pieces m_writtenMany m_templateWide m_tooMuch) f_MO_406 d_MO_readRepeat_129 h80.2.2 rfl ?_
              refine ab_iload_n d_MO_readRepeat_132 rfl ?_
              refine ab_aload_n d_MO_readRepeat_133 rfl ?_
              refine zz_bipush d_MO_readRepeat_134 (by decide) ?_
              refine ab_callV (d' := d - 1) (as := [vz 8]) (st := [vz 0, vz m_most0, vz m_least0, vR 80]) (r := _) (z8_MO_has (o := o) (m_thrown := m_thrown) (m_taped := m_taped) (m_length := m_length) (m_out := m_out) (m_wide := m_wide) (m_gathered := m_gathered) (m_sets := m_sets) (m_ranges := m_ranges) (m_nodes := m_nodes) (m_at := ((m_at + be) + 0)) (m_flags := m_flags) (m_fault := m_fault) (m_place := m_place) (m_numbered := m_numbered) (m_depth := m_depth) (m_value := m_value) (m_isNot := m_isNot) (m_least0 := m_least0) (m_most0 := m_most0) (m_slot := m_slot) (m_work := m_work) (m_got := m_got) (m_rowMany := m_rowMany) (m_charAt := m_charAt) (m_charWide := m_charWide) (m_trail := m_trail) (m_isMatch := m_isMatch) (m_matchGroups := m_matchGroups) (m_allFrom := m_allFrom) (m_allBefore := m_allBefore) (m_founds := m_founds) (m_pieces := m_pieces) (m_writtenMany := m_writtenMany) (m_templateWide := m_templateWide) (m_tooMuch := m_tooMuch) h80 (by omega)) (fun oc G2 h => by rcases h with ⟨_, h, _⟩ <;> exact ⟨_, h⟩) (by omega) m_MO_has ml_MO_355 im_MO_has se_MO_has c_MO h80.2.2 (Nat.le_of_ble_eq_true rfl) d_MO_readRepeat_136 rfl ?_
              intro v G23 hq
              rcases hq with ⟨v24, hv, hGe, hq25, hq26⟩
              cases hv
              rw [hGe]
              change ab_W _ _ _ G22 139 [some (vR 80), some (vz be), some (vz m_at), some (vz 0)] [vz v24, vz 0, vz m_most0, vz m_least0, vR 80] _
              refine zz_icmp_eq (tgt := 146) d_MO_readRepeat_139 (by decide) (by decide) (by omega) (fun c27 => ?_) (fun c27 => ?_)
              · refine zz_iconst d_MO_readRepeat_146 ?_
                refine ab_callV (d' := d - 1) (as := [vz m_least0, vz m_most0, vz 0]) (st := []) (r := _) (z_MO_repeat (o := o) (m_thrown := m_thrown) (m_taped := m_taped) (m_length := m_length) (m_out := m_out) (m_wide := m_wide) (m_gathered := m_gathered) (m_sets := m_sets) (m_ranges := m_ranges) (m_nodes := m_nodes) (m_at := ((m_at + be) + 0)) (m_flags := m_flags) (m_fault := m_fault) (m_place := m_place) (m_numbered := m_numbered) (m_depth := m_depth) (m_value := m_value) (m_isNot := m_isNot) (m_least0 := m_least0) (m_most0 := m_most0) (m_slot := m_slot) (m_work := m_work) (m_got := m_got) (m_rowMany := m_rowMany) (m_charAt := m_charAt) (m_charWide := m_charWide) (m_trail := m_trail) (m_isMatch := m_isMatch) (m_matchGroups := m_matchGroups) (m_allFrom := m_allFrom) (m_allBefore := m_allBefore) (m_founds := m_founds) (m_pieces := m_pieces) (m_writtenMany := m_writtenMany) (m_templateWide := m_templateWide) (m_tooMuch := m_tooMuch) (le := m_least0) (mo := m_most0) (lz := 0) (ls := ls) (SV := SV) (ro := ro) (vv := vv) (a1_ := a1_) (b1_ := b1_) (c1_ := c1_) (d1_ := d1_) (e1_ := e1_) (mo9 := mo9) (nu9 := 0) (fo9 := 0) (t1_ := t1_) (ao1_ := ao1_) (ro1_ := ro1_) (ts1_ := ts1_) (RL := RL) (RH := RH) h80 ptrI_0 (by omega) (by omega) (by omega) (by omega) (by omega) (by omega) (by omega)) (fun oc G2 h => by rcases h with ⟨h, _⟩ <;> exact ⟨_, h⟩) (by omega) m_MO_repeat ml_MO_409 im_MO_repeat se_MO_repeat c_MO h80.2.2 (Nat.le_of_ble_eq_true rfl) d_MO_readRepeat_147 rfl ?_
                intro v G28 hq
                rcases hq with ⟨hv, hfk, hlk, hsk, hN80, pNtrI_0⟩
                cases hv
                have h84 := hfk.get h84 (by decide)
                have h87 := hfk.get h87 (by decide)
                have h88 := hfk.get h88 (by decide)
                have h93 := hfk.get h93 (by decide)
                have h81 := hfk.get h81 (by decide)
                have h82 := hfk.get h82 (by decide)
                have h91 := hfk.get h91 (by decide)
                have h92 := hfk.get h92 (by decide)
                have h110 := hfk.get h110 (by decide)
                have h111 := hfk.get h111 (by decide)
                have ptrI_0 := pNtrI_0
                have hfr := hfr.tr hfk (by decide)
                have hlen := hlk.trans hlen
                have hsl := hsk.trans hsl
                have h80 := hN80
                change ab_W _ _ _ G28 150 [some (vR 80), some (vz be), some (vz m_at), some (vz 0)] [] _
                refine ab_vret rfl d_MO_readRepeat_150 ?_
                rw [hQ]; exact (Or.inl ⟨_, _, _, _, _, _, _, _, _, _, _, _, _, _, _, _, _, _, _, _, _, _, ((a1_, b1_, c1_, d1_, (e1_ - ls + (tms m_least0 mo9 * ls + mre m_least0 mo9))) :: t1_), 0, 0, SV, ((ao1_, (mnC ro (mnR m_least0 mo9 0 vv))) :: ts1_), mnI, mnI, na, nl, rfl, hfr, hlen, hsl, h80, h87, h88, h93, h91, h92, h110, h111, ptrI_0, (by omega), (by first | exact jmk | exact rgs_w jmk (by omega)), (by first | exact jrl | exact rgs_w jrl (by omega)), (by first | exact jrh | exact rgs_w jrh (by omega)), (by first | exact jns | exact rgs_w jns (by omega)), (by first | exact jnm | exact rgs_w jnm (by omega)), (by omega), (by exact jnj), (by exact sb_rep (by omega) hrp (by unfold tooR; omega) (by unfold askR; omega)), (by exact ss_rep hrp (by first | exact lz_0 (by omega) | exact lz_1 (by omega)))⟩)
              · refine zz_iconst d_MO_readRepeat_142 ?_
                refine ab_goto (tgt := 147) d_MO_readRepeat_143 (by decide) ?_
                refine ab_callV (d' := d - 1) (as := [vz m_least0, vz m_most0, vz 1]) (st := []) (r := _) (z_MO_repeat (o := o) (m_thrown := m_thrown) (m_taped := m_taped) (m_length := m_length) (m_out := m_out) (m_wide := m_wide) (m_gathered := m_gathered) (m_sets := m_sets) (m_ranges := m_ranges) (m_nodes := m_nodes) (m_at := ((m_at + be) + 0)) (m_flags := m_flags) (m_fault := m_fault) (m_place := m_place) (m_numbered := m_numbered) (m_depth := m_depth) (m_value := m_value) (m_isNot := m_isNot) (m_least0 := m_least0) (m_most0 := m_most0) (m_slot := m_slot) (m_work := m_work) (m_got := m_got) (m_rowMany := m_rowMany) (m_charAt := m_charAt) (m_charWide := m_charWide) (m_trail := m_trail) (m_isMatch := m_isMatch) (m_matchGroups := m_matchGroups) (m_allFrom := m_allFrom) (m_allBefore := m_allBefore) (m_founds := m_founds) (m_pieces := m_pieces) (m_writtenMany := m_writtenMany) (m_templateWide := m_templateWide) (m_tooMuch := m_tooMuch) (le := m_least0) (mo := m_most0) (lz := 1) (ls := ls) (SV := SV) (ro := ro) (vv := vv) (a1_ := a1_) (b1_ := b1_) (c1_ := c1_) (d1_ := d1_) (e1_ := e1_) (mo9 := mo9) (nu9 := 0) (fo9 := 0) (t1_ := t1_) (ao1_ := ao1_) (ro1_ := ro1_) (ts1_ := ts1_) (RL := RL) (RH := RH) h80 ptrI_0 (by omega) (by omega) (by omega) (by omega) (by omega) (by omega) (by omega)) (fun oc G2 h => by rcases h with ⟨h, _⟩ <;> exact ⟨_, h⟩) (by omega) m_MO_repeat ml_MO_409 im_MO_repeat se_MO_repeat c_MO h80.2.2 (Nat.le_of_ble_eq_true rfl) d_MO_readRepeat_147 rfl ?_
                intro v G29 hq
                rcases hq with ⟨hv, hfk, hlk, hsk, hN80, pNtrI_0⟩
                cases hv
                have h84 := hfk.get h84 (by decide)
                have h87 := hfk.get h87 (by decide)
                have h88 := hfk.get h88 (by decide)
                have h93 := hfk.get h93 (by decide)
                have h81 := hfk.get h81 (by decide)
                have h82 := hfk.get h82 (by decide)
                have h91 := hfk.get h91 (by decide)
                have h92 := hfk.get h92 (by decide)
                have h110 := hfk.get h110 (by decide)
                have h111 := hfk.get h111 (by decide)
                have ptrI_0 := pNtrI_0
                have hfr := hfr.tr hfk (by decide)
                have hlen := hlk.trans hlen
                have hsl := hsk.trans hsl
                have h80 := hN80
                change ab_W _ _ _ G29 150 [some (vR 80), some (vz be), some (vz m_at), some (vz 0)] [] _
                refine ab_vret rfl d_MO_readRepeat_150 ?_
                rw [hQ]; exact (Or.inl ⟨_, _, _, _, _, _, _, _, _, _, _, _, _, _, _, _, _, _, _, _, _, _, ((a1_, b1_, c1_, d1_, (e1_ - ls + (tms m_least0 mo9 * ls + mre m_least0 mo9))) :: t1_), 0, 0, SV, ((ao1_, (mnC ro (mnR m_least0 mo9 1 vv))) :: ts1_), mnI, mnI, na, nl, rfl, hfr, hlen, hsl, h80, h87, h88, h93, h91, h92, h110, h111, ptrI_0, (by omega), (by first | exact jmk | exact rgs_w jmk (by omega)), (by first | exact jrl | exact rgs_w jrl (by omega)), (by first | exact jrh | exact rgs_w jrh (by omega)), (by first | exact jns | exact rgs_w jns (by omega)), (by first | exact jnm | exact rgs_w jnm (by omega)), (by omega), (by exact jnj), (by exact sb_rep (by omega) hrp (by unfold tooR; omega) (by unfold askR; omega)), (by exact ss_rep hrp (by first | exact lz_0 (by omega) | exact lz_1 (by omega)))⟩)
            · refine zz_iconst d_MO_readRepeat_99 ?_
              refine ab_goto (tgt := 104) d_MO_readRepeat_100 (by decide) ?_
              refine ab_istore_n d_MO_readRepeat_104 (Nat.le_of_ble_eq_true rfl) (Nat.le_of_ble_eq_true rfl) rfl ?_
              change ab_W _ _ _ G15 105 [some (vR 80), some (vz be), some (vz m_at), some (vz 1)] [] _
              refine ab_aload_n d_MO_readRepeat_105 rfl ?_
              refine ab_dup d_MO_readRepeat_106 rfl ?_
              refine ab_getf (fs := mof m_thrown m_taped m_length m_out m_wide m_gathered m_sets m_ranges m_nodes (m_at + be) m_flags m_fault m_place m_numbered m_depth m_value m_isNot m_least0 m_most0 m_slot m_work m_got m_rowMany m_charAt m_charWide m_trail m_isMatch m_matchGroups m_allFrom m_allBefore m_founds m_pieces m_writtenMany m_templateWide m_tooMuch) f_MO_279 d_MO_readRepeat_107 h80.2.2 rfl ?_
              refine ab_iload_n d_MO_readRepeat_110 rfl ?_
              refine zz_if_eq (tgt := 118) d_MO_readRepeat_111 (by decide) (by decide) (fun c30 => absurd c30 (by decide)) (fun c30 => ?_)
              refine zz_iconst d_MO_readRepeat_114 ?_
              refine ab_goto (tgt := 119) d_MO_readRepeat_115 (by decide) ?_
              refine zz_iadd d_MO_readRepeat_119 ?_
              refine ab_putf (fs := mof m_thrown m_taped m_length m_out m_wide m_gathered m_sets m_ranges m_nodes (m_at + be) m_flags m_fault m_place m_numbered m_depth m_value m_isNot m_least0 m_most0 m_slot m_work m_got m_rowMany m_charAt m_charWide m_trail m_isMatch m_matchGroups m_allFrom m_allBefore m_founds m_pieces m_writtenMany m_templateWide m_tooMuch) f_MO_279 (Or.inl rfl) d_MO_readRepeat_120 h80.2.2 (Nat.le_of_ble_eq_true rfl) (fun _ => ⟨rfl, rfl⟩) (h80.2.1 (by decide)) ?_
              obtain ⟨G31, eG31⟩ : ∃ z : ab_G, z = List.set G15 80 (ab_ob 12 (mof m_thrown m_taped m_length m_out m_wide m_gathered m_sets m_ranges m_nodes ((m_at + be) + 1) m_flags m_fault m_place m_numbered m_depth m_value m_isNot m_least0 m_most0 m_slot m_work m_got m_rowMany m_charAt m_charWide m_trail m_isMatch m_matchGroups m_allFrom m_allBefore m_founds m_pieces m_writtenMany m_templateWide m_tooMuch)) := ⟨_, rfl⟩
              have h84 := h84.keep h80 eG31 (by decide)
              have h87 := h87.keep h80 eG31 (by decide)
              have h88 := h88.keep h80 eG31 (by decide)
              have h93 := h93.keep h80 eG31 (by decide)
              have h81 := h81.keep h80 eG31 (by decide)
              have h82 := h82.keep h80 eG31 (by decide)
              have h91 := h91.keep h80 eG31 (by decide)
              have h92 := h92.keep h80 eG31 (by decide)
              have h110 := h110.keep h80 eG31 (by decide)
              have h111 := h111.keep h80 eG31 (by decide)
              have hst := (fx.rf (o := o) (S := [280]) (G := G15)).wr h80 eG31 (List.mem_singleton.mpr rfl)
              have ptrI_0 := trI.fr hst ptrI_0 (by decide) (by decide) (by decide) (by decide) (by decide) (by decide) (by decide) (by decide) (by decide) (by decide) (by decide) (by decide) (by decide) (by decide) (by decide) (by decide) (by decide) (by decide)
              have hlen := (z_len eG31).trans hlen
              have hsl := (z_sl h80 eG31 rfl).trans hsl
              have hfr := hfr.wr h80 eG31 (by decide)
              have h80 := h80.kept eG31
              change ab_W _ _ _ (List.set G15 80 (ab_ob 12 (mof m_thrown m_taped m_length m_out m_wide m_gathered m_sets m_ranges m_nodes ((m_at + be) + 1) m_flags m_fault m_place m_numbered m_depth m_value m_isNot m_least0 m_most0 m_slot m_work m_got m_rowMany m_charAt m_charWide m_trail m_isMatch m_matchGroups m_allFrom m_allBefore m_founds m_pieces m_writtenMany m_templateWide m_tooMuch))) 123 [some (vR 80), some (vz be), some (vz m_at), some (vz 1)] [] _
              rw [← eG31]
              refine ab_aload_n d_MO_readRepeat_123 rfl ?_
              refine ab_aload_n d_MO_readRepeat_124 rfl ?_
              refine ab_getf (fs := mof m_thrown m_taped m_length m_out m_wide m_gathered m_sets m_ranges m_nodes ((m_at + be) + 1) m_flags m_fault m_place m_numbered m_depth m_value m_isNot m_least0 m_most0 m_slot m_work m_got m_rowMany m_charAt m_charWide m_trail m_isMatch m_matchGroups m_allFrom m_allBefore m_founds m_pieces m_writtenMany m_templateWide m_tooMuch) f_MO_403 d_MO_readRepeat_125 h80.2.2 rfl ?_
              refine ab_aload_n d_MO_readRepeat_128 rfl ?_
              refine ab_getf (fs := mof m_thrown m_taped m_length m_out m_wide m_gathered m_sets m_ranges m_nodes ((m_at + be) + 1) m_flags m_fault m_place m_numbered m_depth m_value m_isNot m_least0 m_most0 m_slot m_work m_got m_rowMany m_charAt m_charWide m_trail m_isMatch m_matchGroups m_allFrom m_allBefore m_founds m_pieces m_writtenMany m_templateWide m_tooMuch) f_MO_406 d_MO_readRepeat_129 h80.2.2 rfl ?_
              refine ab_iload_n d_MO_readRepeat_132 rfl ?_
              refine ab_aload_n d_MO_readRepeat_133 rfl ?_
              refine zz_bipush d_MO_readRepeat_134 (by decide) ?_
              refine ab_callV (d' := d - 1) (as := [vz 8]) (st := [vz 1, vz m_most0, vz m_least0, vR 80]) (r := _) (z8_MO_has (o := o) (m_thrown := m_thrown) (m_taped := m_taped) (m_length := m_length) (m_out := m_out) (m_wide := m_wide) (m_gathered := m_gathered) (m_sets := m_sets) (m_ranges := m_ranges) (m_nodes := m_nodes) (m_at := ((m_at + be) + 1)) (m_flags := m_flags) (m_fault := m_fault) (m_place := m_place) (m_numbered := m_numbered) (m_depth := m_depth) (m_value := m_value) (m_isNot := m_isNot) (m_least0 := m_least0) (m_most0 := m_most0) (m_slot := m_slot) (m_work := m_work) (m_got := m_got) (m_rowMany := m_rowMany) (m_charAt := m_charAt) (m_charWide := m_charWide) (m_trail := m_trail) (m_isMatch := m_isMatch) (m_matchGroups := m_matchGroups) (m_allFrom := m_allFrom) (m_allBefore := m_allBefore) (m_founds := m_founds) (m_pieces := m_pieces) (m_writtenMany := m_writtenMany) (m_templateWide := m_templateWide) (m_tooMuch := m_tooMuch) h80 (by omega)) (fun oc G2 h => by rcases h with ⟨_, h, _⟩ <;> exact ⟨_, h⟩) (by omega) m_MO_has ml_MO_355 im_MO_has se_MO_has c_MO h80.2.2 (Nat.le_of_ble_eq_true rfl) d_MO_readRepeat_136 rfl ?_
              intro v G32 hq
              rcases hq with ⟨v33, hv, hGe, hq34, hq35⟩
              cases hv
              rw [hGe]
              change ab_W _ _ _ G31 139 [some (vR 80), some (vz be), some (vz m_at), some (vz 1)] [vz v33, vz 1, vz m_most0, vz m_least0, vR 80] _
              refine zz_icmp_eq (tgt := 146) d_MO_readRepeat_139 (by decide) (by decide) (by omega) (fun c36 => ?_) (fun c36 => ?_)
              · refine zz_iconst d_MO_readRepeat_146 ?_
                refine ab_callV (d' := d - 1) (as := [vz m_least0, vz m_most0, vz 0]) (st := []) (r := _) (z_MO_repeat (o := o) (m_thrown := m_thrown) (m_taped := m_taped) (m_length := m_length) (m_out := m_out) (m_wide := m_wide) (m_gathered := m_gathered) (m_sets := m_sets) (m_ranges := m_ranges) (m_nodes := m_nodes) (m_at := ((m_at + be) + 1)) (m_flags := m_flags) (m_fault := m_fault) (m_place := m_place) (m_numbered := m_numbered) (m_depth := m_depth) (m_value := m_value) (m_isNot := m_isNot) (m_least0 := m_least0) (m_most0 := m_most0) (m_slot := m_slot) (m_work := m_work) (m_got := m_got) (m_rowMany := m_rowMany) (m_charAt := m_charAt) (m_charWide := m_charWide) (m_trail := m_trail) (m_isMatch := m_isMatch) (m_matchGroups := m_matchGroups) (m_allFrom := m_allFrom) (m_allBefore := m_allBefore) (m_founds := m_founds) (m_pieces := m_pieces) (m_writtenMany := m_writtenMany) (m_templateWide := m_templateWide) (m_tooMuch := m_tooMuch) (le := m_least0) (mo := m_most0) (lz := 0) (ls := ls) (SV := SV) (ro := ro) (vv := vv) (a1_ := a1_) (b1_ := b1_) (c1_ := c1_) (d1_ := d1_) (e1_ := e1_) (mo9 := mo9) (nu9 := 0) (fo9 := 0) (t1_ := t1_) (ao1_ := ao1_) (ro1_ := ro1_) (ts1_ := ts1_) (RL := RL) (RH := RH) h80 ptrI_0 (by omega) (by omega) (by omega) (by omega) (by omega) (by omega) (by omega)) (fun oc G2 h => by rcases h with ⟨h, _⟩ <;> exact ⟨_, h⟩) (by omega) m_MO_repeat ml_MO_409 im_MO_repeat se_MO_repeat c_MO h80.2.2 (Nat.le_of_ble_eq_true rfl) d_MO_readRepeat_147 rfl ?_
                intro v G37 hq
                rcases hq with ⟨hv, hfk, hlk, hsk, hN80, pNtrI_0⟩
                cases hv
                have h84 := hfk.get h84 (by decide)
                have h87 := hfk.get h87 (by decide)
                have h88 := hfk.get h88 (by decide)
                have h93 := hfk.get h93 (by decide)
                have h81 := hfk.get h81 (by decide)
                have h82 := hfk.get h82 (by decide)
                have h91 := hfk.get h91 (by decide)
                have h92 := hfk.get h92 (by decide)
                have h110 := hfk.get h110 (by decide)
                have h111 := hfk.get h111 (by decide)
                have ptrI_0 := pNtrI_0
                have hfr := hfr.tr hfk (by decide)
                have hlen := hlk.trans hlen
                have hsl := hsk.trans hsl
                have h80 := hN80
                change ab_W _ _ _ G37 150 [some (vR 80), some (vz be), some (vz m_at), some (vz 1)] [] _
                refine ab_vret rfl d_MO_readRepeat_150 ?_
                rw [hQ]; exact (Or.inl ⟨_, _, _, _, _, _, _, _, _, _, _, _, _, _, _, _, _, _, _, _, _, _, ((a1_, b1_, c1_, d1_, (e1_ - ls + (tms m_least0 mo9 * ls + mre m_least0 mo9))) :: t1_), 0, 0, SV, ((ao1_, (mnC ro (mnR m_least0 mo9 0 vv))) :: ts1_), mnI, mnI, na, nl, rfl, hfr, hlen, hsl, h80, h87, h88, h93, h91, h92, h110, h111, ptrI_0, (by omega), (by first | exact jmk | exact rgs_w jmk (by omega)), (by first | exact jrl | exact rgs_w jrl (by omega)), (by first | exact jrh | exact rgs_w jrh (by omega)), (by first | exact jns | exact rgs_w jns (by omega)), (by first | exact jnm | exact rgs_w jnm (by omega)), (by omega), (by exact jnj), (by exact sb_rep (by omega) hrp (by unfold tooR; omega) (by unfold askR; omega)), (by exact ss_rep hrp (by first | exact lz_0 (by omega) | exact lz_1 (by omega)))⟩)
              · refine zz_iconst d_MO_readRepeat_142 ?_
                refine ab_goto (tgt := 147) d_MO_readRepeat_143 (by decide) ?_
                refine ab_callV (d' := d - 1) (as := [vz m_least0, vz m_most0, vz 1]) (st := []) (r := _) (z_MO_repeat (o := o) (m_thrown := m_thrown) (m_taped := m_taped) (m_length := m_length) (m_out := m_out) (m_wide := m_wide) (m_gathered := m_gathered) (m_sets := m_sets) (m_ranges := m_ranges) (m_nodes := m_nodes) (m_at := ((m_at + be) + 1)) (m_flags := m_flags) (m_fault := m_fault) (m_place := m_place) (m_numbered := m_numbered) (m_depth := m_depth) (m_value := m_value) (m_isNot := m_isNot) (m_least0 := m_least0) (m_most0 := m_most0) (m_slot := m_slot) (m_work := m_work) (m_got := m_got) (m_rowMany := m_rowMany) (m_charAt := m_charAt) (m_charWide := m_charWide) (m_trail := m_trail) (m_isMatch := m_isMatch) (m_matchGroups := m_matchGroups) (m_allFrom := m_allFrom) (m_allBefore := m_allBefore) (m_founds := m_founds) (m_pieces := m_pieces) (m_writtenMany := m_writtenMany) (m_templateWide := m_templateWide) (m_tooMuch := m_tooMuch) (le := m_least0) (mo := m_most0) (lz := 1) (ls := ls) (SV := SV) (ro := ro) (vv := vv) (a1_ := a1_) (b1_ := b1_) (c1_ := c1_) (d1_ := d1_) (e1_ := e1_) (mo9 := mo9) (nu9 := 0) (fo9 := 0) (t1_ := t1_) (ao1_ := ao1_) (ro1_ := ro1_) (ts1_ := ts1_) (RL := RL) (RH := RH) h80 ptrI_0 (by omega) (by omega) (by omega) (by omega) (by omega) (by omega) (by omega)) (fun oc G2 h => by rcases h with ⟨h, _⟩ <;> exact ⟨_, h⟩) (by omega) m_MO_repeat ml_MO_409 im_MO_repeat se_MO_repeat c_MO h80.2.2 (Nat.le_of_ble_eq_true rfl) d_MO_readRepeat_147 rfl ?_
                intro v G38 hq
                rcases hq with ⟨hv, hfk, hlk, hsk, hN80, pNtrI_0⟩
                cases hv
                have h84 := hfk.get h84 (by decide)
                have h87 := hfk.get h87 (by decide)
                have h88 := hfk.get h88 (by decide)
                have h93 := hfk.get h93 (by decide)
                have h81 := hfk.get h81 (by decide)
                have h82 := hfk.get h82 (by decide)
                have h91 := hfk.get h91 (by decide)
                have h92 := hfk.get h92 (by decide)
                have h110 := hfk.get h110 (by decide)
                have h111 := hfk.get h111 (by decide)
                have ptrI_0 := pNtrI_0
                have hfr := hfr.tr hfk (by decide)
                have hlen := hlk.trans hlen
                have hsl := hsk.trans hsl
                have h80 := hN80
                change ab_W _ _ _ G38 150 [some (vR 80), some (vz be), some (vz m_at), some (vz 1)] [] _
                refine ab_vret rfl d_MO_readRepeat_150 ?_
                rw [hQ]; exact (Or.inl ⟨_, _, _, _, _, _, _, _, _, _, _, _, _, _, _, _, _, _, _, _, _, _, ((a1_, b1_, c1_, d1_, (e1_ - ls + (tms m_least0 mo9 * ls + mre m_least0 mo9))) :: t1_), 0, 0, SV, ((ao1_, (mnC ro (mnR m_least0 mo9 1 vv))) :: ts1_), mnI, mnI, na, nl, rfl, hfr, hlen, hsl, h80, h87, h88, h93, h91, h92, h110, h111, ptrI_0, (by omega), (by first | exact jmk | exact rgs_w jmk (by omega)), (by first | exact jrl | exact rgs_w jrl (by omega)), (by first | exact jrh | exact rgs_w jrh (by omega)), (by first | exact jns | exact rgs_w jns (by omega)), (by first | exact jnm | exact rgs_w jnm (by omega)), (by omega), (by exact jnj), (by exact sb_rep (by omega) hrp (by unfold tooR; omega) (by unfold askR; omega)), (by exact ss_rep hrp (by first | exact lz_0 (by omega) | exact lz_1 (by omega)))⟩)
          · cases hv
            rw [hGe]
            change ab_W _ _ _ G15 94 [some (vR 80), some (vz be), some (vz m_at), none] [vz (-1)] _
            refine zz_bipush d_MO_readRepeat_94 (by decide) ?_
            refine zz_icmp_ne (tgt := 103) d_MO_readRepeat_96 (by decide) (by decide) (by decide) (fun c39 => ?_) (fun c39 => absurd c39 (by decide))
            refine zz_iconst d_MO_readRepeat_103 ?_
            refine ab_istore_n d_MO_readRepeat_104 (Nat.le_of_ble_eq_true rfl) (Nat.le_of_ble_eq_true rfl) rfl ?_
            change ab_W _ _ _ G15 105 [some (vR 80), some (vz be), some (vz m_at), some (vz 0)] [] _
            refine ab_aload_n d_MO_readRepeat_105 rfl ?_
            refine ab_dup d_MO_readRepeat_106 rfl ?_
            refine ab_getf (fs := mof m_thrown m_taped m_length m_out m_wide m_gathered m_sets m_ranges m_nodes (m_at + be) m_flags m_fault m_place m_numbered m_depth m_value m_isNot m_least0 m_most0 m_slot m_work m_got m_rowMany m_charAt m_charWide m_trail m_isMatch m_matchGroups m_allFrom m_allBefore m_founds m_pieces m_writtenMany m_templateWide m_tooMuch) f_MO_279 d_MO_readRepeat_107 h80.2.2 rfl ?_
            refine ab_iload_n d_MO_readRepeat_110 rfl ?_
            refine zz_if_eq (tgt := 118) d_MO_readRepeat_111 (by decide) (by decide) (fun c40 => ?_) (fun c40 => absurd c40 (by decide))
            refine zz_iconst d_MO_readRepeat_118 ?_
            refine zz_iadd d_MO_readRepeat_119 ?_
            refine ab_putf (fs := mof m_thrown m_taped m_length m_out m_wide m_gathered m_sets m_ranges m_nodes (m_at + be) m_flags m_fault m_place m_numbered m_depth m_value m_isNot m_least0 m_most0 m_slot m_work m_got m_rowMany m_charAt m_charWide m_trail m_isMatch m_matchGroups m_allFrom m_allBefore m_founds m_pieces m_writtenMany m_templateWide m_tooMuch) f_MO_279 (Or.inl rfl) d_MO_readRepeat_120 h80.2.2 (Nat.le_of_ble_eq_true rfl) (fun _ => ⟨rfl, rfl⟩) (h80.2.1 (by decide)) ?_
            obtain ⟨G41, eG41⟩ : ∃ z : ab_G, z = List.set G15 80 (ab_ob 12 (mof m_thrown m_taped m_length m_out m_wide m_gathered m_sets m_ranges m_nodes ((m_at + be) + 0) m_flags m_fault m_place m_numbered m_depth m_value m_isNot m_least0 m_most0 m_slot m_work m_got m_rowMany m_charAt m_charWide m_trail m_isMatch m_matchGroups m_allFrom m_allBefore m_founds m_pieces m_writtenMany m_templateWide m_tooMuch)) := ⟨_, rfl⟩
            have h84 := h84.keep h80 eG41 (by decide)
            have h87 := h87.keep h80 eG41 (by decide)
            have h88 := h88.keep h80 eG41 (by decide)
            have h93 := h93.keep h80 eG41 (by decide)
            have h81 := h81.keep h80 eG41 (by decide)
            have h82 := h82.keep h80 eG41 (by decide)
            have h91 := h91.keep h80 eG41 (by decide)
            have h92 := h92.keep h80 eG41 (by decide)
            have h110 := h110.keep h80 eG41 (by decide)
            have h111 := h111.keep h80 eG41 (by decide)
            have hst := (fx.rf (o := o) (S := [280]) (G := G15)).wr h80 eG41 (List.mem_singleton.mpr rfl)
            have ptrI_0 := trI.fr hst ptrI_0 (by decide) (by decide) (by decide) (by decide) (by decide) (by decide) (by decide) (by decide) (by decide) (by decide) (by decide) (by decide) (by decide) (by decide) (by decide) (by decide) (by decide) (by decide)
            have hlen := (z_len eG41).trans hlen
            have hsl := (z_sl h80 eG41 rfl).trans hsl
            have hfr := hfr.wr h80 eG41 (by decide)
            have h80 := h80.kept eG41
            change ab_W _ _ _ (List.set G15 80 (ab_ob 12 (mof m_thrown m_taped m_length m_out m_wide m_gathered m_sets m_ranges m_nodes ((m_at + be) + 0) m_flags m_fault m_place m_numbered m_depth m_value m_isNot m_least0 m_most0 m_slot m_work m_got m_rowMany m_charAt m_charWide m_trail m_isMatch m_matchGroups m_allFrom m_allBefore m_founds m_pieces m_writtenMany m_templateWide m_tooMuch))) 123 [some (vR 80), some (vz be), some (vz m_at), some (vz 0)] [] _
            rw [← eG41]
            refine ab_aload_n d_MO_readRepeat_123 rfl ?_
            refine ab_aload_n d_MO_readRepeat_124 rfl ?_
            refine ab_getf (fs := mof m_thrown m_taped m_length m_out m_wide m_gathered m_sets m_ranges m_nodes ((m_at + be) + 0) m_flags m_fault m_place m_numbered m_depth m_value m_isNot m_least0 m_most0 m_slot m_work m_got m_rowMany m_charAt m_charWide m_trail m_isMatch m_matchGroups m_allFrom m_allBefore m_founds m_pieces m_writtenMany m_templateWide m_tooMuch) f_MO_403 d_MO_readRepeat_125 h80.2.2 rfl ?_
            refine ab_aload_n d_MO_readRepeat_128 rfl ?_
            refine ab_getf (fs := mof m_thrown m_taped m_length m_out m_wide m_gathered m_sets m_ranges m_nodes ((m_at + be) + 0) m_flags m_fault m_place m_numbered m_depth m_value m_isNot m_least0 m_most0 m_slot m_work m_got m_rowMany m_charAt m_charWide m_trail m_isMatch m_matchGroups m_allFrom m_allBefore m_founds m_pieces m_writtenMany m_templateWide m_tooMuch) f_MO_406 d_MO_readRepeat_129 h80.2.2 rfl ?_
            refine ab_iload_n d_MO_readRepeat_132 rfl ?_
            refine ab_aload_n d_MO_readRepeat_133 rfl ?_
            refine zz_bipush d_MO_readRepeat_134 (by decide) ?_
            refine ab_callV (d' := d - 1) (as := [vz 8]) (st := [vz 0, vz m_most0, vz m_least0, vR 80]) (r := _) (z8_MO_has (o := o) (m_thrown := m_thrown) (m_taped := m_taped) (m_length := m_length) (m_out := m_out) (m_wide := m_wide) (m_gathered := m_gathered) (m_sets := m_sets) (m_ranges := m_ranges) (m_nodes := m_nodes) (m_at := ((m_at + be) + 0)) (m_flags := m_flags) (m_fault := m_fault) (m_place := m_place) (m_numbered := m_numbered) (m_depth := m_depth) (m_value := m_value) (m_isNot := m_isNot) (m_least0 := m_least0) (m_most0 := m_most0) (m_slot := m_slot) (m_work := m_work) (m_got := m_got) (m_rowMany := m_rowMany) (m_charAt := m_charAt) (m_charWide := m_charWide) (m_trail := m_trail) (m_isMatch := m_isMatch) (m_matchGroups := m_matchGroups) (m_allFrom := m_allFrom) (m_allBefore := m_allBefore) (m_founds := m_founds) (m_pieces := m_pieces) (m_writtenMany := m_writtenMany) (m_templateWide := m_templateWide) (m_tooMuch := m_tooMuch) h80 (by omega)) (fun oc G2 h => by rcases h with ⟨_, h, _⟩ <;> exact ⟨_, h⟩) (by omega) m_MO_has ml_MO_355 im_MO_has se_MO_has c_MO h80.2.2 (Nat.le_of_ble_eq_true rfl) d_MO_readRepeat_136 rfl ?_
            intro v G42 hq
            rcases hq with ⟨v43, hv, hGe, hq44, hq45⟩
            cases hv
            rw [hGe]
            change ab_W _ _ _ G41 139 [some (vR 80), some (vz be), some (vz m_at), some (vz 0)] [vz v43, vz 0, vz m_most0, vz m_least0, vR 80] _
            refine zz_icmp_eq (tgt := 146) d_MO_readRepeat_139 (by decide) (by decide) (by omega) (fun c46 => ?_) (fun c46 => ?_)
            · refine zz_iconst d_MO_readRepeat_146 ?_
              refine ab_callV (d' := d - 1) (as := [vz m_least0, vz m_most0, vz 0]) (st := []) (r := _) (z_MO_repeat (o := o) (m_thrown := m_thrown) (m_taped := m_taped) (m_length := m_length) (m_out := m_out) (m_wide := m_wide) (m_gathered := m_gathered) (m_sets := m_sets) (m_ranges := m_ranges) (m_nodes := m_nodes) (m_at := ((m_at + be) + 0)) (m_flags := m_flags) (m_fault := m_fault) (m_place := m_place) (m_numbered := m_numbered) (m_depth := m_depth) (m_value := m_value) (m_isNot := m_isNot) (m_least0 := m_least0) (m_most0 := m_most0) (m_slot := m_slot) (m_work := m_work) (m_got := m_got) (m_rowMany := m_rowMany) (m_charAt := m_charAt) (m_charWide := m_charWide) (m_trail := m_trail) (m_isMatch := m_isMatch) (m_matchGroups := m_matchGroups) (m_allFrom := m_allFrom) (m_allBefore := m_allBefore) (m_founds := m_founds) (m_pieces := m_pieces) (m_writtenMany := m_writtenMany) (m_templateWide := m_templateWide) (m_tooMuch := m_tooMuch) (le := m_least0) (mo := m_most0) (lz := 0) (ls := ls) (SV := SV) (ro := ro) (vv := vv) (a1_ := a1_) (b1_ := b1_) (c1_ := c1_) (d1_ := d1_) (e1_ := e1_) (mo9 := mo9) (nu9 := 0) (fo9 := 0) (t1_ := t1_) (ao1_ := ao1_) (ro1_ := ro1_) (ts1_ := ts1_) (RL := RL) (RH := RH) h80 ptrI_0 (by omega) (by omega) (by omega) (by omega) (by omega) (by omega) (by omega)) (fun oc G2 h => by rcases h with ⟨h, _⟩ <;> exact ⟨_, h⟩) (by omega) m_MO_repeat ml_MO_409 im_MO_repeat se_MO_repeat c_MO h80.2.2 (Nat.le_of_ble_eq_true rfl) d_MO_readRepeat_147 rfl ?_
              intro v G47 hq
              rcases hq with ⟨hv, hfk, hlk, hsk, hN80, pNtrI_0⟩
              cases hv
              have h84 := hfk.get h84 (by decide)
              have h87 := hfk.get h87 (by decide)
              have h88 := hfk.get h88 (by decide)
              have h93 := hfk.get h93 (by decide)
              have h81 := hfk.get h81 (by decide)
              have h82 := hfk.get h82 (by decide)
              have h91 := hfk.get h91 (by decide)
              have h92 := hfk.get h92 (by decide)
              have h110 := hfk.get h110 (by decide)
              have h111 := hfk.get h111 (by decide)
              have ptrI_0 := pNtrI_0
              have hfr := hfr.tr hfk (by decide)
              have hlen := hlk.trans hlen
              have hsl := hsk.trans hsl
              have h80 := hN80
              change ab_W _ _ _ G47 150 [some (vR 80), some (vz be), some (vz m_at), some (vz 0)] [] _
              refine ab_vret rfl d_MO_readRepeat_150 ?_
              rw [hQ]; exact (Or.inl ⟨_, _, _, _, _, _, _, _, _, _, _, _, _, _, _, _, _, _, _, _, _, _, ((a1_, b1_, c1_, d1_, (e1_ - ls + (tms m_least0 mo9 * ls + mre m_least0 mo9))) :: t1_), 0, 0, SV, ((ao1_, (mnC ro (mnR m_least0 mo9 0 vv))) :: ts1_), mnI, mnI, na, nl, rfl, hfr, hlen, hsl, h80, h87, h88, h93, h91, h92, h110, h111, ptrI_0, (by omega), (by first | exact jmk | exact rgs_w jmk (by omega)), (by first | exact jrl | exact rgs_w jrl (by omega)), (by first | exact jrh | exact rgs_w jrh (by omega)), (by first | exact jns | exact rgs_w jns (by omega)), (by first | exact jnm | exact rgs_w jnm (by omega)), (by omega), (by exact jnj), (by exact sb_rep (by omega) hrp (by unfold tooR; omega) (by unfold askR; omega)), (by exact ss_rep hrp (by first | exact lz_0 (by omega) | exact lz_1 (by omega)))⟩)
            · refine zz_iconst d_MO_readRepeat_142 ?_
              refine ab_goto (tgt := 147) d_MO_readRepeat_143 (by decide) ?_
              refine ab_callV (d' := d - 1) (as := [vz m_least0, vz m_most0, vz 1]) (st := []) (r := _) (z_MO_repeat (o := o) (m_thrown := m_thrown) (m_taped := m_taped) (m_length := m_length) (m_out := m_out) (m_wide := m_wide) (m_gathered := m_gathered) (m_sets := m_sets) (m_ranges := m_ranges) (m_nodes := m_nodes) (m_at := ((m_at + be) + 0)) (m_flags := m_flags) (m_fault := m_fault) (m_place := m_place) (m_numbered := m_numbered) (m_depth := m_depth) (m_value := m_value) (m_isNot := m_isNot) (m_least0 := m_least0) (m_most0 := m_most0) (m_slot := m_slot) (m_work := m_work) (m_got := m_got) (m_rowMany := m_rowMany) (m_charAt := m_charAt) (m_charWide := m_charWide) (m_trail := m_trail) (m_isMatch := m_isMatch) (m_matchGroups := m_matchGroups) (m_allFrom := m_allFrom) (m_allBefore := m_allBefore) (m_founds := m_founds) (m_pieces := m_pieces) (m_writtenMany := m_writtenMany) (m_templateWide := m_templateWide) (m_tooMuch := m_tooMuch) (le := m_least0) (mo := m_most0) (lz := 1) (ls := ls) (SV := SV) (ro := ro) (vv := vv) (a1_ := a1_) (b1_ := b1_) (c1_ := c1_) (d1_ := d1_) (e1_ := e1_) (mo9 := mo9) (nu9 := 0) (fo9 := 0) (t1_ := t1_) (ao1_ := ao1_) (ro1_ := ro1_) (ts1_ := ts1_) (RL := RL) (RH := RH) h80 ptrI_0 (by omega) (by omega) (by omega) (by omega) (by omega) (by omega) (by omega)) (fun oc G2 h => by rcases h with ⟨h, _⟩ <;> exact ⟨_, h⟩) (by omega) m_MO_repeat ml_MO_409 im_MO_repeat se_MO_repeat c_MO h80.2.2 (Nat.le_of_ble_eq_true rfl) d_MO_readRepeat_147 rfl ?_
              intro v G48 hq
              rcases hq with ⟨hv, hfk, hlk, hsk, hN80, pNtrI_0⟩
              cases hv
              have h84 := hfk.get h84 (by decide)
              have h87 := hfk.get h87 (by decide)
              have h88 := hfk.get h88 (by decide)
              have h93 := hfk.get h93 (by decide)
              have h81 := hfk.get h81 (by decide)
              have h82 := hfk.get h82 (by decide)
              have h91 := hfk.get h91 (by decide)
              have h92 := hfk.get h92 (by decide)
              have h110 := hfk.get h110 (by decide)
              have h111 := hfk.get h111 (by decide)
              have ptrI_0 := pNtrI_0
              have hfr := hfr.tr hfk (by decide)
              have hlen := hlk.trans hlen
              have hsl := hsk.trans hsl
              have h80 := hN80
              change ab_W _ _ _ G48 150 [some (vR 80), some (vz be), some (vz m_at), some (vz 0)] [] _
              refine ab_vret rfl d_MO_readRepeat_150 ?_
              rw [hQ]; exact (Or.inl ⟨_, _, _, _, _, _, _, _, _, _, _, _, _, _, _, _, _, _, _, _, _, _, ((a1_, b1_, c1_, d1_, (e1_ - ls + (tms m_least0 mo9 * ls + mre m_least0 mo9))) :: t1_), 0, 0, SV, ((ao1_, (mnC ro (mnR m_least0 mo9 1 vv))) :: ts1_), mnI, mnI, na, nl, rfl, hfr, hlen, hsl, h80, h87, h88, h93, h91, h92, h110, h111, ptrI_0, (by omega), (by first | exact jmk | exact rgs_w jmk (by omega)), (by first | exact jrl | exact rgs_w jrl (by omega)), (by first | exact jrh | exact rgs_w jrh (by omega)), (by first | exact jns | exact rgs_w jns (by omega)), (by first | exact jnm | exact rgs_w jnm (by omega)), (by omega), (by exact jnj), (by exact sb_rep (by omega) hrp (by unfold tooR; omega) (by unfold askR; omega)), (by exact ss_rep hrp (by first | exact lz_0 (by omega) | exact lz_1 (by omega)))⟩)
        · refine ab_aload_n d_MO_readRepeat_53 rfl ?_
          refine ab_getf (fs := mof m_thrown m_taped m_length m_out m_wide m_gathered m_sets m_ranges m_nodes m_at m_flags m_fault m_place m_numbered m_depth m_value m_isNot m_least0 m_most0 m_slot m_work m_got m_rowMany m_charAt m_charWide m_trail m_isMatch m_matchGroups m_allFrom m_allBefore m_founds m_pieces m_writtenMany m_templateWide m_tooMuch) f_MO_403 d_MO_readRepeat_54 h80.2.2 rfl ?_
          refine ab_aload_n d_MO_readRepeat_57 rfl ?_
          refine ab_getf (fs := mof m_thrown m_taped m_length m_out m_wide m_gathered m_sets m_ranges m_nodes m_at m_flags m_fault m_place m_numbered m_depth m_value m_isNot m_least0 m_most0 m_slot m_work m_got m_rowMany m_charAt m_charWide m_trail m_isMatch m_matchGroups m_allFrom m_allBefore m_founds m_pieces m_writtenMany m_templateWide m_tooMuch) f_MO_406 d_MO_readRepeat_58 h80.2.2 rfl ?_
          refine zz_icmp_le (tgt := 71) d_MO_readRepeat_61 (by decide) (by omega) (by omega) (fun c49 => ?_) (fun c49 => ?_)
          · refine ab_aload_n d_MO_readRepeat_71 rfl ?_
            refine ab_getf (fs := mof m_thrown m_taped m_length m_out m_wide m_gathered m_sets m_ranges m_nodes m_at m_flags m_fault m_place m_numbered m_depth m_value m_isNot m_least0 m_most0 m_slot m_work m_got m_rowMany m_charAt m_charWide m_trail m_isMatch m_matchGroups m_allFrom m_allBefore m_founds m_pieces m_writtenMany m_templateWide m_tooMuch) f_MO_273 d_MO_readRepeat_72 h80.2.2 rfl ?_
            refine zz_if_le (tgt := 79) d_MO_readRepeat_75 (by decide) (by omega) (fun c50 => ?_) (fun c50 => absurd c50 (by omega))
            have hr1_ : rp = 1 := by omega
            rw [hr1_] at jt
            have ptrI_0 : trI o G 0 m_nodes m_sets (m_depth + 1) (-1) 0 2 ((a1_, b1_, c1_, d1_, e1_) :: t1_) 1 ls 0 SV ((ao1_, ro1_) :: ts1_) ro vv mnI RL RH m_ranges 0 0 := ⟨K, O, Fi, Be, Le, Mo, Z, LZ, SM, SA, QF, QL, AF, AL, SD, OA, OF, ON, h94, h95, h96, h97, h98, h99, h100, h101, h90, h89, h105, h106, h107, h108, h109, h102, h103, h104, jk, jo, jfi, jbe, jle, jmo, jz, jlz, jsm, jsa, jqf, jql, jaf, jal, jsd, joa, jof, jon, jt, (by omega), (fun h => absurd h (by decide)), (fun _ => by rw [show m_depth + 1 - 1 = m_depth by omega]; omega), (fun h => absurd h (by decide)), (fun h => absurd h (by decide)), (fun h => absurd h (by decide)), (fun h => absurd h (by decide)), jss, jsv⟩
            refine ab_aload_n d_MO_readRepeat_79 rfl ?_
            refine ab_dup d_MO_readRepeat_80 rfl ?_
            refine ab_getf (fs := mof m_thrown m_taped m_length m_out m_wide m_gathered m_sets m_ranges m_nodes m_at m_flags m_fault m_place m_numbered m_depth m_value m_isNot m_least0 m_most0 m_slot m_work m_got m_rowMany m_charAt m_charWide m_trail m_isMatch m_matchGroups m_allFrom m_allBefore m_founds m_pieces m_writtenMany m_templateWide m_tooMuch) f_MO_279 d_MO_readRepeat_81 h80.2.2 rfl ?_
            refine ab_iload_n d_MO_readRepeat_84 rfl ?_
            refine zz_iadd d_MO_readRepeat_85 ?_
            refine ab_putf (fs := mof m_thrown m_taped m_length m_out m_wide m_gathered m_sets m_ranges m_nodes m_at m_flags m_fault m_place m_numbered m_depth m_value m_isNot m_least0 m_most0 m_slot m_work m_got m_rowMany m_charAt m_charWide m_trail m_isMatch m_matchGroups m_allFrom m_allBefore m_founds m_pieces m_writtenMany m_templateWide m_tooMuch) f_MO_279 (Or.inl rfl) d_MO_readRepeat_86 h80.2.2 (Nat.le_of_ble_eq_true rfl) (fun _ => ⟨rfl, rfl⟩) (h80.2.1 (by decide)) ?_
            obtain ⟨G51, eG51⟩ : ∃ z : ab_G, z = List.set G 80 (ab_ob 12 (mof m_thrown m_taped m_length m_out m_wide m_gathered m_sets m_ranges m_nodes (m_at + be) m_flags m_fault m_place m_numbered m_depth m_value m_isNot m_least0 m_most0 m_slot m_work m_got m_rowMany m_charAt m_charWide m_trail m_isMatch m_matchGroups m_allFrom m_allBefore m_founds m_pieces m_writtenMany m_templateWide m_tooMuch)) := ⟨_, rfl⟩
            have h84 := h84.keep h80 eG51 (by decide)
            have h87 := h87.keep h80 eG51 (by decide)
            have h88 := h88.keep h80 eG51 (by decide)
            have h93 := h93.keep h80 eG51 (by decide)
            have h81 := h81.keep h80 eG51 (by decide)
            have h82 := h82.keep h80 eG51 (by decide)
            have h91 := h91.keep h80 eG51 (by decide)
            have h92 := h92.keep h80 eG51 (by decide)
            have h110 := h110.keep h80 eG51 (by decide)
            have h111 := h111.keep h80 eG51 (by decide)
            have hst := (fx.rf (o := o) (S := [280]) (G := G)).wr h80 eG51 (List.mem_singleton.mpr rfl)
            have ptrI_0 := trI.fr hst ptrI_0 (by decide) (by decide) (by decide) (by decide) (by decide) (by decide) (by decide) (by decide) (by decide) (by decide) (by decide) (by decide) (by decide) (by decide) (by decide) (by decide) (by decide) (by decide)
            have hlen := (z_len eG51).trans hlen
            have hsl := (z_sl h80 eG51 rfl).trans hsl
            have hfr := hfr.wr h80 eG51 (by decide)
            have h80 := h80.kept eG51
            change ab_W _ _ _ (List.set G 80 (ab_ob 12 (mof m_thrown m_taped m_length m_out m_wide m_gathered m_sets m_ranges m_nodes (m_at + be) m_flags m_fault m_place m_numbered m_depth m_value m_isNot m_least0 m_most0 m_slot m_work m_got m_rowMany m_charAt m_charWide m_trail m_isMatch m_matchGroups m_allFrom m_allBefore m_founds m_pieces m_writtenMany m_templateWide m_tooMuch))) 89 [some (vR 80), some (vz be), some (vz m_at), none] [] _
            rw [← eG51]
            refine ab_aload_n d_MO_readRepeat_89 rfl ?_
            refine zz_iconst d_MO_readRepeat_90 ?_
            refine ab_callV (d' := d - 1) (as := [vz 0]) (st := []) (r := _) (z_MO_here (o := o) (m_thrown := m_thrown) (m_taped := m_taped) (m_length := m_length) (m_out := m_out) (m_wide := m_wide) (m_gathered := m_gathered) (m_sets := m_sets) (m_ranges := m_ranges) (m_nodes := m_nodes) (m_at := (m_at + be)) (m_flags := m_flags) (m_fault := m_fault) (m_place := m_place) (m_numbered := m_numbered) (m_depth := m_depth) (m_value := m_value) (m_isNot := m_isNot) (m_least0 := m_least0) (m_most0 := m_most0) (m_slot := m_slot) (m_work := m_work) (m_got := m_got) (m_rowMany := m_rowMany) (m_charAt := m_charAt) (m_charWide := m_charWide) (m_trail := m_trail) (m_isMatch := m_isMatch) (m_matchGroups := m_matchGroups) (m_allFrom := m_allFrom) (m_allBefore := m_allBefore) (m_founds := m_founds) (m_pieces := m_pieces) (m_writtenMany := m_writtenMany) (m_templateWide := m_templateWide) (m_tooMuch := m_tooMuch) (A_tape := A_tape) (k := 0) (qh := (m_at + be)) h80 h84 (by omega) (by omega) jtp (by omega) (by omega)) (fun oc G2 h => by rcases h with ⟨h, _⟩ | ⟨h, _⟩ <;> exact ⟨_, h⟩) (by omega) m_MO_here ml_MO_297 im_MO_here se_MO_here c_MO h80.2.2 (Nat.le_of_ble_eq_true rfl) d_MO_readRepeat_91 rfl ?_
            intro v G52 hq
            rcases hq with ⟨hv, hGe, hq53⟩ | ⟨hv, hGe, hq54, hq55⟩
            · cases hv
              rw [hGe]
              change ab_W _ _ _ G51 94 [some (vR 80), some (vz be), some (vz m_at), none] [vz (tpk A_tape m_taped (m_at + be))] _
              refine zz_bipush d_MO_readRepeat_94 (by decide) ?_
              refine zz_icmp_ne (tgt := 103) d_MO_readRepeat_96 (by decide) (by omega) (by decide) (fun c56 => ?_) (fun c56 => ?_)
              · refine zz_iconst d_MO_readRepeat_103 ?_
                refine ab_istore_n d_MO_readRepeat_104 (Nat.le_of_ble_eq_true rfl) (Nat.le_of_ble_eq_true rfl) rfl ?_
                change ab_W _ _ _ G51 105 [some (vR 80), some (vz be), some (vz m_at), some (vz 0)] [] _
                refine ab_aload_n d_MO_readRepeat_105 rfl ?_
                refine ab_dup d_MO_readRepeat_106 rfl ?_
                refine ab_getf (fs := mof m_thrown m_taped m_length m_out m_wide m_gathered m_sets m_ranges m_nodes (m_at + be) m_flags m_fault m_place m_numbered m_depth m_value m_isNot m_least0 m_most0 m_slot m_work m_got m_rowMany m_charAt m_charWide m_trail m_isMatch m_matchGroups m_allFrom m_allBefore m_founds m_pieces m_writtenMany m_templateWide m_tooMuch) f_MO_279 d_MO_readRepeat_107 h80.2.2 rfl ?_
                refine ab_iload_n d_MO_readRepeat_110 rfl ?_
                refine zz_if_eq (tgt := 118) d_MO_readRepeat_111 (by decide) (by decide) (fun c57 => ?_) (fun c57 => absurd c57 (by decide))
                refine zz_iconst d_MO_readRepeat_118 ?_
                refine zz_iadd d_MO_readRepeat_119 ?_
                refine ab_putf (fs := mof m_thrown m_taped m_length m_out m_wide m_gathered m_sets m_ranges m_nodes (m_at + be) m_flags m_fault m_place m_numbered m_depth m_value m_isNot m_least0 m_most0 m_slot m_work m_got m_rowMany m_charAt m_charWide m_trail m_isMatch m_matchGroups m_allFrom m_allBefore m_founds m_pieces m_writtenMany m_templateWide m_tooMuch) f_MO_279 (Or.inl rfl) d_MO_readRepeat_120 h80.2.2 (Nat.le_of_ble_eq_true rfl) (fun _ => ⟨rfl, rfl⟩) (h80.2.1 (by decide)) ?_
                obtain ⟨G58, eG58⟩ : ∃ z : ab_G, z = List.set G51 80 (ab_ob 12 (mof m_thrown m_taped m_length m_out m_wide m_gathered m_sets m_ranges m_nodes ((m_at + be) + 0) m_flags m_fault m_place m_numbered m_depth m_value m_isNot m_least0 m_most0 m_slot m_work m_got m_rowMany m_charAt m_charWide m_trail m_isMatch m_matchGroups m_allFrom m_allBefore m_founds m_pieces m_writtenMany m_templateWide m_tooMuch)) := ⟨_, rfl⟩
                have h84 := h84.keep h80 eG58 (by decide)
                have h87 := h87.keep h80 eG58 (by decide)
                have h88 := h88.keep h80 eG58 (by decide)
                have h93 := h93.keep h80 eG58 (by decide)
                have h81 := h81.keep h80 eG58 (by decide)
                have h82 := h82.keep h80 eG58 (by decide)
                have h91 := h91.keep h80 eG58 (by decide)
                have h92 := h92.keep h80 eG58 (by decide)
                have h110 := h110.keep h80 eG58 (by decide)
                have h111 := h111.keep h80 eG58 (by decide)
                have hst := (fx.rf (o := o) (S := [280]) (G := G51)).wr h80 eG58 (List.mem_singleton.mpr rfl)
                have ptrI_0 := trI.fr hst ptrI_0 (by decide) (by decide) (by decide) (by decide) (by decide) (by decide) (by decide) (by decide) (by decide) (by decide) (by decide) (by decide) (by decide) (by decide) (by decide) (by decide) (by decide) (by decide)
                have hlen := (z_len eG58).trans hlen
                have hsl := (z_sl h80 eG58 rfl).trans hsl
                have hfr := hfr.wr h80 eG58 (by decide)
                have h80 := h80.kept eG58
                change ab_W _ _ _ (List.set G51 80 (ab_ob 12 (mof m_thrown m_taped m_length m_out m_wide m_gathered m_sets m_ranges m_nodes ((m_at + be) + 0) m_flags m_fault m_place m_numbered m_depth m_value m_isNot m_least0 m_most0 m_slot m_work m_got m_rowMany m_charAt m_charWide m_trail m_isMatch m_matchGroups m_allFrom m_allBefore m_founds m_pieces m_writtenMany m_templateWide m_tooMuch))) 123 [some (vR 80), some (vz be), some (vz m_at), some (vz 0)] [] _
                rw [← eG58]
                refine ab_aload_n d_MO_readRepeat_123 rfl ?_
                refine ab_aload_n d_MO_readRepeat_124 rfl ?_
                refine ab_getf (fs := mof m_thrown m_taped m_length m_out m_wide m_gathered m_sets m_ranges m_nodes ((m_at + be) + 0) m_flags m_fault m_place m_numbered m_depth m_value m_isNot m_least0 m_most0 m_slot m_work m_got m_rowMany m_charAt m_charWide m_trail m_isMatch m_matchGroups m_allFrom m_allBefore m_founds m_pieces m_writtenMany m_templateWide m_tooMuch) f_MO_403 d_MO_readRepeat_125 h80.2.2 rfl ?_
                refine ab_aload_n d_MO_readRepeat_128 rfl ?_
                refine ab_getf (fs := mof m_thrown m_taped m_length m_out m_wide m_gathered m_sets m_ranges m_nodes ((m_at + be) + 0) m_flags m_fault m_place m_numbered m_depth m_value m_isNot m_least0 m_most0 m_slot m_work m_got m_rowMany m_charAt m_charWide m_trail m_isMatch m_matchGroups m_allFrom m_allBefore m_founds m_pieces m_writtenMany m_templateWide m_tooMuch) f_MO_406 d_MO_readRepeat_129 h80.2.2 rfl ?_
                refine ab_iload_n d_MO_readRepeat_132 rfl ?_
                refine ab_aload_n d_MO_readRepeat_133 rfl ?_
                refine zz_bipush d_MO_readRepeat_134 (by decide) ?_
                refine ab_callV (d' := d - 1) (as := [vz 8]) (st := [vz 0, vz m_most0, vz m_least0, vR 80]) (r := _) (z8_MO_has (o := o) (m_thrown := m_thrown) (m_taped := m_taped) (m_length := m_length) (m_out := m_out) (m_wide := m_wide) (m_gathered := m_gathered) (m_sets := m_sets) (m_ranges := m_ranges) (m_nodes := m_nodes) (m_at := ((m_at + be) + 0)) (m_flags := m_flags) (m_fault := m_fault) (m_place := m_place) (m_numbered := m_numbered) (m_depth := m_depth) (m_value := m_value) (m_isNot := m_isNot) (m_least0 := m_least0) (m_most0 := m_most0) (m_slot := m_slot) (m_work := m_work) (m_got := m_got) (m_rowMany := m_rowMany) (m_charAt := m_charAt) (m_charWide := m_charWide) (m_trail := m_trail) (m_isMatch := m_isMatch) (m_matchGroups := m_matchGroups) (m_allFrom := m_allFrom) (m_allBefore := m_allBefore) (m_founds := m_founds) (m_pieces := m_pieces) (m_writtenMany := m_writtenMany) (m_templateWide := m_templateWide) (m_tooMuch := m_tooMuch) h80 (by omega)) (fun oc G2 h => by rcases h with ⟨_, h, _⟩ <;> exact ⟨_, h⟩) (by omega) m_MO_has ml_MO_355 im_MO_has se_MO_has c_MO h80.2.2 (Nat.le_of_ble_eq_true rfl) d_MO_readRepeat_136 rfl ?_
                intro v G59 hq
                rcases hq with ⟨v60, hv, hGe, hq61, hq62⟩
                cases hv
                rw [hGe]
                change ab_W _ _ _ G58 139 [some (vR 80), some (vz be), some (vz m_at), some (vz 0)] [vz v60, vz 0, vz m_most0, vz m_least0, vR 80] _
                refine zz_icmp_eq (tgt := 146) d_MO_readRepeat_139 (by decide) (by decide) (by omega) (fun c63 => ?_) (fun c63 => ?_)
                · refine zz_iconst d_MO_readRepeat_146 ?_
                  refine ab_callV (d' := d - 1) (as := [vz m_least0, vz m_most0, vz 0]) (st := []) (r := _) (z_MO_repeat (o := o) (m_thrown := m_thrown) (m_taped := m_taped) (m_length := m_length) (m_out := m_out) (m_wide := m_wide) (m_gathered := m_gathered) (m_sets := m_sets) (m_ranges := m_ranges) (m_nodes := m_nodes) (m_at := ((m_at + be) + 0)) (m_flags := m_flags) (m_fault := m_fault) (m_place := m_place) (m_numbered := m_numbered) (m_depth := m_depth) (m_value := m_value) (m_isNot := m_isNot) (m_least0 := m_least0) (m_most0 := m_most0) (m_slot := m_slot) (m_work := m_work) (m_got := m_got) (m_rowMany := m_rowMany) (m_charAt := m_charAt) (m_charWide := m_charWide) (m_trail := m_trail) (m_isMatch := m_isMatch) (m_matchGroups := m_matchGroups) (m_allFrom := m_allFrom) (m_allBefore := m_allBefore) (m_founds := m_founds) (m_pieces := m_pieces) (m_writtenMany := m_writtenMany) (m_templateWide := m_templateWide) (m_tooMuch := m_tooMuch) (le := m_least0) (mo := m_most0) (lz := 0) (ls := ls) (SV := SV) (ro := ro) (vv := vv) (a1_ := a1_) (b1_ := b1_) (c1_ := c1_) (d1_ := d1_) (e1_ := e1_) (mo9 := mo9) (nu9 := 0) (fo9 := 0) (t1_ := t1_) (ao1_ := ao1_) (ro1_ := ro1_) (ts1_ := ts1_) (RL := RL) (RH := RH) h80 ptrI_0 (by omega) (by omega) (by omega) (by omega) (by omega) (by omega) (by omega)) (fun oc G2 h => by rcases h with ⟨h, _⟩ <;> exact ⟨_, h⟩) (by omega) m_MO_repeat ml_MO_409 im_MO_repeat se_MO_repeat c_MO h80.2.2 (Nat.le_of_ble_eq_true rfl) d_MO_readRepeat_147 rfl ?_
                  intro v G64 hq
                  rcases hq with ⟨hv, hfk, hlk, hsk, hN80, pNtrI_0⟩
                  cases hv
                  have h84 := hfk.get h84 (by decide)
                  have h87 := hfk.get h87 (by decide)
                  have h88 := hfk.get h88 (by decide)
                  have h93 := hfk.get h93 (by decide)
                  have h81 := hfk.get h81 (by decide)
                  have h82 := hfk.get h82 (by decide)
                  have h91 := hfk.get h91 (by decide)
                  have h92 := hfk.get h92 (by decide)
                  have h110 := hfk.get h110 (by decide)
                  have h111 := hfk.get h111 (by decide)
                  have ptrI_0 := pNtrI_0
                  have hfr := hfr.tr hfk (by decide)
                  have hlen := hlk.trans hlen
                  have hsl := hsk.trans hsl
                  have h80 := hN80
                  change ab_W _ _ _ G64 150 [some (vR 80), some (vz be), some (vz m_at), some (vz 0)] [] _
                  refine ab_vret rfl d_MO_readRepeat_150 ?_
                  rw [hQ]; exact (Or.inl ⟨_, _, _, _, _, _, _, _, _, _, _, _, _, _, _, _, _, _, _, _, _, _, ((a1_, b1_, c1_, d1_, (e1_ - ls + (tms m_least0 mo9 * ls + mre m_least0 mo9))) :: t1_), 0, 0, SV, ((ao1_, (mnC ro (mnR m_least0 mo9 0 vv))) :: ts1_), mnI, mnI, na, nl, rfl, hfr, hlen, hsl, h80, h87, h88, h93, h91, h92, h110, h111, ptrI_0, (by omega), (by first | exact jmk | exact rgs_w jmk (by omega)), (by first | exact jrl | exact rgs_w jrl (by omega)), (by first | exact jrh | exact rgs_w jrh (by omega)), (by first | exact jns | exact rgs_w jns (by omega)), (by first | exact jnm | exact rgs_w jnm (by omega)), (by omega), (by exact jnj), (by exact sb_rep (by omega) hrp (by unfold tooR; omega) (by unfold askR; omega)), (by exact ss_rep hrp (by first | exact lz_0 (by omega) | exact lz_1 (by omega)))⟩)
                · refine zz_iconst d_MO_readRepeat_142 ?_
                  refine ab_goto (tgt := 147) d_MO_readRepeat_143 (by decide) ?_
                  refine ab_callV (d' := d - 1) (as := [vz m_least0, vz m_most0, vz 1]) (st := []) (r := _) (z_MO_repeat (o := o) (m_thrown := m_thrown) (m_taped := m_taped) (m_length := m_length) (m_out := m_out) (m_wide := m_wide) (m_gathered := m_gathered) (m_sets := m_sets) (m_ranges := m_ranges) (m_nodes := m_nodes) (m_at := ((m_at + be) + 0)) (m_flags := m_flags) (m_fault := m_fault) (m_place := m_place) (m_numbered := m_numbered) (m_depth := m_depth) (m_value := m_value) (m_isNot := m_isNot) (m_least0 := m_least0) (m_most0 := m_most0) (m_slot := m_slot) (m_work := m_work) (m_got := m_got) (m_rowMany := m_rowMany) (m_charAt := m_charAt) (m_charWide := m_charWide) (m_trail := m_trail) (m_isMatch := m_isMatch) (m_matchGroups := m_matchGroups) (m_allFrom := m_allFrom) (m_allBefore := m_allBefore) (m_founds := m_founds) (m_pieces := m_pieces) (m_writtenMany := m_writtenMany) (m_templateWide := m_templateWide) (m_tooMuch := m_tooMuch) (le := m_least0) (mo := m_most0) (lz := 1) (ls := ls) (SV := SV) (ro := ro) (vv := vv) (a1_ := a1_) (b1_ := b1_) (c1_ := c1_) (d1_ := d1_) (e1_ := e1_) (mo9 := mo9) (nu9 := 0) (fo9 := 0) (t1_ := t1_) (ao1_ := ao1_) (ro1_ := ro1_) (ts1_ := ts1_) (RL := RL) (RH := RH) h80 ptrI_0 (by omega) (by omega) (by omega) (by omega) (by omega) (by omega) (by omega)) (fun oc G2 h => by rcases h with ⟨h, _⟩ <;> exact ⟨_, h⟩) (by omega) m_MO_repeat ml_MO_409 im_MO_repeat se_MO_repeat c_MO h80.2.2 (Nat.le_of_ble_eq_true rfl) d_MO_readRepeat_147 rfl ?_
                  intro v G65 hq
                  rcases hq with ⟨hv, hfk, hlk, hsk, hN80, pNtrI_0⟩
                  cases hv
                  have h84 := hfk.get h84 (by decide)
                  have h87 := hfk.get h87 (by decide)
                  have h88 := hfk.get h88 (by decide)
                  have h93 := hfk.get h93 (by decide)
                  have h81 := hfk.get h81 (by decide)
                  have h82 := hfk.get h82 (by decide)
                  have h91 := hfk.get h91 (by decide)
                  have h92 := hfk.get h92 (by decide)
                  have h110 := hfk.get h110 (by decide)
                  have h111 := hfk.get h111 (by decide)
                  have ptrI_0 := pNtrI_0
                  have hfr := hfr.tr hfk (by decide)
                  have hlen := hlk.trans hlen
                  have hsl := hsk.trans hsl
                  have h80 := hN80
                  change ab_W _ _ _ G65 150 [some (vR 80), some (vz be), some (vz m_at), some (vz 0)] [] _
                  refine ab_vret rfl d_MO_readRepeat_150 ?_
                  rw [hQ]; exact (Or.inl ⟨_, _, _, _, _, _, _, _, _, _, _, _, _, _, _, _, _, _, _, _, _, _, ((a1_, b1_, c1_, d1_, (e1_ - ls + (tms m_least0 mo9 * ls + mre m_least0 mo9))) :: t1_), 0, 0, SV, ((ao1_, (mnC ro (mnR m_least0 mo9 1 vv))) :: ts1_), mnI, mnI, na, nl, rfl, hfr, hlen, hsl, h80, h87, h88, h93, h91, h92, h110, h111, ptrI_0, (by omega), (by first | exact jmk | exact rgs_w jmk (by omega)), (by first | exact jrl | exact rgs_w jrl (by omega)), (by first | exact jrh | exact rgs_w jrh (by omega)), (by first | exact jns | exact rgs_w jns (by omega)), (by first | exact jnm | exact rgs_w jnm (by omega)), (by omega), (by exact jnj), (by exact sb_rep (by omega) hrp (by unfold tooR; omega) (by unfold askR; omega)), (by exact ss_rep hrp (by first | exact lz_0 (by omega) | exact lz_1 (by omega)))⟩)
              · refine zz_iconst d_MO_readRepeat_99 ?_
                refine ab_goto (tgt := 104) d_MO_readRepeat_100 (by decide) ?_
                refine ab_istore_n d_MO_readRepeat_104 (Nat.le_of_ble_eq_true rfl) (Nat.le_of_ble_eq_true rfl) rfl ?_
                change ab_W _ _ _ G51 105 [some (vR 80), some (vz be), some (vz m_at), some (vz 1)] [] _
                refine ab_aload_n d_MO_readRepeat_105 rfl ?_
                refine ab_dup d_MO_readRepeat_106 rfl ?_
                refine ab_getf (fs := mof m_thrown m_taped m_length m_out m_wide m_gathered m_sets m_ranges m_nodes (m_at + be) m_flags m_fault m_place m_numbered m_depth m_value m_isNot m_least0 m_most0 m_slot m_work m_got m_rowMany m_charAt m_charWide m_trail m_isMatch m_matchGroups m_allFrom m_allBefore m_founds m_pieces m_writtenMany m_templateWide m_tooMuch) f_MO_279 d_MO_readRepeat_107 h80.2.2 rfl ?_
                refine ab_iload_n d_MO_readRepeat_110 rfl ?_
                refine zz_if_eq (tgt := 118) d_MO_readRepeat_111 (by decide) (by decide) (fun c66 => absurd c66 (by decide)) (fun c66 => ?_)
                refine zz_iconst d_MO_readRepeat_114 ?_
                refine ab_goto (tgt := 119) d_MO_readRepeat_115 (by decide) ?_
                refine zz_iadd d_MO_readRepeat_119 ?_
                refine ab_putf (fs := mof m_thrown m_taped m_length m_out m_wide m_gathered m_sets m_ranges m_nodes (m_at + be) m_flags m_fault m_place m_numbered m_depth m_value m_isNot m_least0 m_most0 m_slot m_work m_got m_rowMany m_charAt m_charWide m_trail m_isMatch m_matchGroups m_allFrom m_allBefore m_founds m_pieces m_writtenMany m_templateWide m_tooMuch) f_MO_279 (Or.inl rfl) d_MO_readRepeat_120 h80.2.2 (Nat.le_of_ble_eq_true rfl) (fun _ => ⟨rfl, rfl⟩) (h80.2.1 (by decide)) ?_
                obtain ⟨G67, eG67⟩ : ∃ z : ab_G, z = List.set G51 80 (ab_ob 12 (mof m_thrown m_taped m_length m_out m_wide m_gathered m_sets m_ranges m_nodes ((m_at + be) + 1) m_flags m_fault m_place m_numbered m_depth m_value m_isNot m_least0 m_most0 m_slot m_work m_got m_rowMany m_charAt m_charWide m_trail m_isMatch m_matchGroups m_allFrom m_allBefore m_founds m_pieces m_writtenMany m_templateWide m_tooMuch)) := ⟨_, rfl⟩
                have h84 := h84.keep h80 eG67 (by decide)
                have h87 := h87.keep h80 eG67 (by decide)
                have h88 := h88.keep h80 eG67 (by decide)
                have h93 := h93.keep h80 eG67 (by decide)
                have h81 := h81.keep h80 eG67 (by decide)
                have h82 := h82.keep h80 eG67 (by decide)
                have h91 := h91.keep h80 eG67 (by decide)
                have h92 := h92.keep h80 eG67 (by decide)
                have h110 := h110.keep h80 eG67 (by decide)
                have h111 := h111.keep h80 eG67 (by decide)
                have hst := (fx.rf (o := o) (S := [280]) (G := G51)).wr h80 eG67 (List.mem_singleton.mpr rfl)
                have ptrI_0 := trI.fr hst ptrI_0 (by decide) (by decide) (by decide) (by decide) (by decide) (by decide) (by decide) (by decide) (by decide) (by decide) (by decide) (by decide) (by decide) (by decide) (by decide) (by decide) (by decide) (by decide)
                have hlen := (z_len eG67).trans hlen
                have hsl := (z_sl h80 eG67 rfl).trans hsl
                have hfr := hfr.wr h80 eG67 (by decide)
                have h80 := h80.kept eG67
                change ab_W _ _ _ (List.set G51 80 (ab_ob 12 (mof m_thrown m_taped m_length m_out m_wide m_gathered m_sets m_ranges m_nodes ((m_at + be) + 1) m_flags m_fault m_place m_numbered m_depth m_value m_isNot m_least0 m_most0 m_slot m_work m_got m_rowMany m_charAt m_charWide m_trail m_isMatch m_matchGroups m_allFrom m_allBefore m_founds m_pieces m_writtenMany m_templateWide m_tooMuch))) 123 [some (vR 80), some (vz be), some (vz m_at), some (vz 1)] [] _
                rw [← eG67]
                refine ab_aload_n d_MO_readRepeat_123 rfl ?_
                refine ab_aload_n d_MO_readRepeat_124 rfl ?_
                refine ab_getf (fs := mof m_thrown m_taped m_length m_out m_wide m_gathered m_sets m_ranges m_nodes ((m_at + be) + 1) m_flags m_fault m_place m_numbered m_depth m_value m_isNot m_least0 m_most0 m_slot m_work m_got m_rowMany m_charAt m_charWide m_trail m_isMatch m_matchGroups m_allFrom m_allBefore m_founds m_pieces m_writtenMany m_templateWide m_tooMuch) f_MO_403 d_MO_readRepeat_125 h80.2.2 rfl ?_
                refine ab_aload_n d_MO_readRepeat_128 rfl ?_
                refine ab_getf (fs := mof m_thrown m_taped m_length m_out m_wide m_gathered m_sets m_ranges m_nodes ((m_at + be) + 1) m_flags m_fault m_place m_numbered m_depth m_value m_isNot m_least0 m_most0 m_slot m_work m_got m_rowMany m_charAt m_charWide m_trail m_isMatch m_matchGroups m_allFrom m_allBefore m_founds m_pieces m_writtenMany m_templateWide m_tooMuch) f_MO_406 d_MO_readRepeat_129 h80.2.2 rfl ?_
                refine ab_iload_n d_MO_readRepeat_132 rfl ?_
                refine ab_aload_n d_MO_readRepeat_133 rfl ?_
                refine zz_bipush d_MO_readRepeat_134 (by decide) ?_
                refine ab_callV (d' := d - 1) (as := [vz 8]) (st := [vz 1, vz m_most0, vz m_least0, vR 80]) (r := _) (z8_MO_has (o := o) (m_thrown := m_thrown) (m_taped := m_taped) (m_length := m_length) (m_out := m_out) (m_wide := m_wide) (m_gathered := m_gathered) (m_sets := m_sets) (m_ranges := m_ranges) (m_nodes := m_nodes) (m_at := ((m_at + be) + 1)) (m_flags := m_flags) (m_fault := m_fault) (m_place := m_place) (m_numbered := m_numbered) (m_depth := m_depth) (m_value := m_value) (m_isNot := m_isNot) (m_least0 := m_least0) (m_most0 := m_most0) (m_slot := m_slot) (m_work := m_work) (m_got := m_got) (m_rowMany := m_rowMany) (m_charAt := m_charAt) (m_charWide := m_charWide) (m_trail := m_trail) (m_isMatch := m_isMatch) (m_matchGroups := m_matchGroups) (m_allFrom := m_allFrom) (m_allBefore := m_allBefore) (m_founds := m_founds) (m_pieces := m_pieces) (m_writtenMany := m_writtenMany) (m_templateWide := m_templateWide) (m_tooMuch := m_tooMuch) h80 (by omega)) (fun oc G2 h => by rcases h with ⟨_, h, _⟩ <;> exact ⟨_, h⟩) (by omega) m_MO_has ml_MO_355 im_MO_has se_MO_has c_MO h80.2.2 (Nat.le_of_ble_eq_true rfl) d_MO_readRepeat_136 rfl ?_
                intro v G68 hq
                rcases hq with ⟨v69, hv, hGe, hq70, hq71⟩
                cases hv
                rw [hGe]
                change ab_W _ _ _ G67 139 [some (vR 80), some (vz be), some (vz m_at), some (vz 1)] [vz v69, vz 1, vz m_most0, vz m_least0, vR 80] _
                refine zz_icmp_eq (tgt := 146) d_MO_readRepeat_139 (by decide) (by decide) (by omega) (fun c72 => ?_) (fun c72 => ?_)
                · refine zz_iconst d_MO_readRepeat_146 ?_
                  refine ab_callV (d' := d - 1) (as := [vz m_least0, vz m_most0, vz 0]) (st := []) (r := _) (z_MO_repeat (o := o) (m_thrown := m_thrown) (m_taped := m_taped) (m_length := m_length) (m_out := m_out) (m_wide := m_wide) (m_gathered := m_gathered) (m_sets := m_sets) (m_ranges := m_ranges) (m_nodes := m_nodes) (m_at := ((m_at + be) + 1)) (m_flags := m_flags) (m_fault := m_fault) (m_place := m_place) (m_numbered := m_numbered) (m_depth := m_depth) (m_value := m_value) (m_isNot := m_isNot) (m_least0 := m_least0) (m_most0 := m_most0) (m_slot := m_slot) (m_work := m_work) (m_got := m_got) (m_rowMany := m_rowMany) (m_charAt := m_charAt) (m_charWide := m_charWide) (m_trail := m_trail) (m_isMatch := m_isMatch) (m_matchGroups := m_matchGroups) (m_allFrom := m_allFrom) (m_allBefore := m_allBefore) (m_founds := m_founds) (m_pieces := m_pieces) (m_writtenMany := m_writtenMany) (m_templateWide := m_templateWide) (m_tooMuch := m_tooMuch) (le := m_least0) (mo := m_most0) (lz := 0) (ls := ls) (SV := SV) (ro := ro) (vv := vv) (a1_ := a1_) (b1_ := b1_) (c1_ := c1_) (d1_ := d1_) (e1_ := e1_) (mo9 := mo9) (nu9 := 0) (fo9 := 0) (t1_ := t1_) (ao1_ := ao1_) (ro1_ := ro1_) (ts1_ := ts1_) (RL := RL) (RH := RH) h80 ptrI_0 (by omega) (by omega) (by omega) (by omega) (by omega) (by omega) (by omega)) (fun oc G2 h => by rcases h with ⟨h, _⟩ <;> exact ⟨_, h⟩) (by omega) m_MO_repeat ml_MO_409 im_MO_repeat se_MO_repeat c_MO h80.2.2 (Nat.le_of_ble_eq_true rfl) d_MO_readRepeat_147 rfl ?_
                  intro v G73 hq
                  rcases hq with ⟨hv, hfk, hlk, hsk, hN80, pNtrI_0⟩
                  cases hv
                  have h84 := hfk.get h84 (by decide)
                  have h87 := hfk.get h87 (by decide)
                  have h88 := hfk.get h88 (by decide)
                  have h93 := hfk.get h93 (by decide)
                  have h81 := hfk.get h81 (by decide)
                  have h82 := hfk.get h82 (by decide)
                  have h91 := hfk.get h91 (by decide)
                  have h92 := hfk.get h92 (by decide)
                  have h110 := hfk.get h110 (by decide)
                  have h111 := hfk.get h111 (by decide)
                  have ptrI_0 := pNtrI_0
                  have hfr := hfr.tr hfk (by decide)
                  have hlen := hlk.trans hlen
                  have hsl := hsk.trans hsl
                  have h80 := hN80
                  change ab_W _ _ _ G73 150 [some (vR 80), some (vz be), some (vz m_at), some (vz 1)] [] _
                  refine ab_vret rfl d_MO_readRepeat_150 ?_
                  rw [hQ]; exact (Or.inl ⟨_, _, _, _, _, _, _, _, _, _, _, _, _, _, _, _, _, _, _, _, _, _, ((a1_, b1_, c1_, d1_, (e1_ - ls + (tms m_least0 mo9 * ls + mre m_least0 mo9))) :: t1_), 0, 0, SV, ((ao1_, (mnC ro (mnR m_least0 mo9 0 vv))) :: ts1_), mnI, mnI, na, nl, rfl, hfr, hlen, hsl, h80, h87, h88, h93, h91, h92, h110, h111, ptrI_0, (by omega), (by first | exact jmk | exact rgs_w jmk (by omega)), (by first | exact jrl | exact rgs_w jrl (by omega)), (by first | exact jrh | exact rgs_w jrh (by omega)), (by first | exact jns | exact rgs_w jns (by omega)), (by first | exact jnm | exact rgs_w jnm (by omega)), (by omega), (by exact jnj), (by exact sb_rep (by omega) hrp (by unfold tooR; omega) (by unfold askR; omega)), (by exact ss_rep hrp (by first | exact lz_0 (by omega) | exact lz_1 (by omega)))⟩)
                · refine zz_iconst d_MO_readRepeat_142 ?_
                  refine ab_goto (tgt := 147) d_MO_readRepeat_143 (by decide) ?_
                  refine ab_callV (d' := d - 1) (as := [vz m_least0, vz m_most0, vz 1]) (st := []) (r := _) (z_MO_repeat (o := o) (m_thrown := m_thrown) (m_taped := m_taped) (m_length := m_length) (m_out := m_out) (m_wide := m_wide) (m_gathered := m_gathered) (m_sets := m_sets) (m_ranges := m_ranges) (m_nodes := m_nodes) (m_at := ((m_at + be) + 1)) (m_flags := m_flags) (m_fault := m_fault) (m_place := m_place) (m_numbered := m_numbered) (m_depth := m_depth) (m_value := m_value) (m_isNot := m_isNot) (m_least0 := m_least0) (m_most0 := m_most0) (m_slot := m_slot) (m_work := m_work) (m_got := m_got) (m_rowMany := m_rowMany) (m_charAt := m_charAt) (m_charWide := m_charWide) (m_trail := m_trail) (m_isMatch := m_isMatch) (m_matchGroups := m_matchGroups) (m_allFrom := m_allFrom) (m_allBefore := m_allBefore) (m_founds := m_founds) (m_pieces := m_pieces) (m_writtenMany := m_writtenMany) (m_templateWide := m_templateWide) (m_tooMuch := m_tooMuch) (le := m_least0) (mo := m_most0) (lz := 1) (ls := ls) (SV := SV) (ro := ro) (vv := vv) (a1_ := a1_) (b1_ := b1_) (c1_ := c1_) (d1_ := d1_) (e1_ := e1_) (mo9 := mo9) (nu9 := 0) (fo9 := 0) (t1_ := t1_) (ao1_ := ao1_) (ro1_ := ro1_) (ts1_ := ts1_) (RL := RL) (RH := RH) h80 ptrI_0 (by omega) (by omega) (by omega) (by omega) (by omega) (by omega) (by omega)) (fun oc G2 h => by rcases h with ⟨h, _⟩ <;> exact ⟨_, h⟩) (by omega) m_MO_repeat ml_MO_409 im_MO_repeat se_MO_repeat c_MO h80.2.2 (Nat.le_of_ble_eq_true rfl) d_MO_readRepeat_147 rfl ?_
                  intro v G74 hq
                  rcases hq with ⟨hv, hfk, hlk, hsk, hN80, pNtrI_0⟩
                  cases hv
                  have h84 := hfk.get h84 (by decide)
                  have h87 := hfk.get h87 (by decide)
                  have h88 := hfk.get h88 (by decide)
                  have h93 := hfk.get h93 (by decide)
                  have h81 := hfk.get h81 (by decide)
                  have h82 := hfk.get h82 (by decide)
                  have h91 := hfk.get h91 (by decide)
                  have h92 := hfk.get h92 (by decide)
                  have h110 := hfk.get h110 (by decide)
                  have h111 := hfk.get h111 (by decide)
                  have ptrI_0 := pNtrI_0
                  have hfr := hfr.tr hfk (by decide)
                  have hlen := hlk.trans hlen
                  have hsl := hsk.trans hsl
                  have h80 := hN80
                  change ab_W _ _ _ G74 150 [some (vR 80), some (vz be), some (vz m_at), some (vz 1)] [] _
                  refine ab_vret rfl d_MO_readRepeat_150 ?_
                  rw [hQ]; exact (Or.inl ⟨_, _, _, _, _, _, _, _, _, _, _, _, _, _, _, _, _, _, _, _, _, _, ((a1_, b1_, c1_, d1_, (e1_ - ls + (tms m_least0 mo9 * ls + mre m_least0 mo9))) :: t1_), 0, 0, SV, ((ao1_, (mnC ro (mnR m_least0 mo9 1 vv))) :: ts1_), mnI, mnI, na, nl, rfl, hfr, hlen, hsl, h80, h87, h88, h93, h91, h92, h110, h111, ptrI_0, (by omega), (by first | exact jmk | exact rgs_w jmk (by omega)), (by first | exact jrl | exact rgs_w jrl (by omega)), (by first | exact jrh | exact rgs_w jrh (by omega)), (by first | exact jns | exact rgs_w jns (by omega)), (by first | exact jnm | exact rgs_w jnm (by omega)), (by omega), (by exact jnj), (by exact sb_rep (by omega) hrp (by unfold tooR; omega) (by unfold askR; omega)), (by exact ss_rep hrp (by first | exact lz_0 (by omega) | exact lz_1 (by omega)))⟩)
            · cases hv
              rw [hGe]
              change ab_W _ _ _ G51 94 [some (vR 80), some (vz be), some (vz m_at), none] [vz (-1)] _
              refine zz_bipush d_MO_readRepeat_94 (by decide) ?_
              refine zz_icmp_ne (tgt := 103) d_MO_readRepeat_96 (by decide) (by decide) (by decide) (fun c75 => ?_) (fun c75 => absurd c75 (by decide))
              refine zz_iconst d_MO_readRepeat_103 ?_
              refine ab_istore_n d_MO_readRepeat_104 (Nat.le_of_ble_eq_true rfl) (Nat.le_of_ble_eq_true rfl) rfl ?_
              change ab_W _ _ _ G51 105 [some (vR 80), some (vz be), some (vz m_at), some (vz 0)] [] _
              refine ab_aload_n d_MO_readRepeat_105 rfl ?_
              refine ab_dup d_MO_readRepeat_106 rfl ?_
              refine ab_getf (fs := mof m_thrown m_taped m_length m_out m_wide m_gathered m_sets m_ranges m_nodes (m_at + be) m_flags m_fault m_place m_numbered m_depth m_value m_isNot m_least0 m_most0 m_slot m_work m_got m_rowMany m_charAt m_charWide m_trail m_isMatch m_matchGroups m_allFrom m_allBefore m_founds m_pieces m_writtenMany m_templateWide m_tooMuch) f_MO_279 d_MO_readRepeat_107 h80.2.2 rfl ?_
              refine ab_iload_n d_MO_readRepeat_110 rfl ?_
              refine zz_if_eq (tgt := 118) d_MO_readRepeat_111 (by decide) (by decide) (fun c76 => ?_) (fun c76 => absurd c76 (by decide))
              refine zz_iconst d_MO_readRepeat_118 ?_
              refine zz_iadd d_MO_readRepeat_119 ?_
              refine ab_putf (fs := mof m_thrown m_taped m_length m_out m_wide m_gathered m_sets m_ranges m_nodes (m_at + be) m_flags m_fault m_place m_numbered m_depth m_value m_isNot m_least0 m_most0 m_slot m_work m_got m_rowMany m_charAt m_charWide m_trail m_isMatch m_matchGroups m_allFrom m_allBefore m_founds m_pieces m_writtenMany m_templateWide m_tooMuch) f_MO_279 (Or.inl rfl) d_MO_readRepeat_120 h80.2.2 (Nat.le_of_ble_eq_true rfl) (fun _ => ⟨rfl, rfl⟩) (h80.2.1 (by decide)) ?_
              obtain ⟨G77, eG77⟩ : ∃ z : ab_G, z = List.set G51 80 (ab_ob 12 (mof m_thrown m_taped m_length m_out m_wide m_gathered m_sets m_ranges m_nodes ((m_at + be) + 0) m_flags m_fault m_place m_numbered m_depth m_value m_isNot m_least0 m_most0 m_slot m_work m_got m_rowMany m_charAt m_charWide m_trail m_isMatch m_matchGroups m_allFrom m_allBefore m_founds m_pieces m_writtenMany m_templateWide m_tooMuch)) := ⟨_, rfl⟩
              have h84 := h84.keep h80 eG77 (by decide)
              have h87 := h87.keep h80 eG77 (by decide)
              have h88 := h88.keep h80 eG77 (by decide)
              have h93 := h93.keep h80 eG77 (by decide)
              have h81 := h81.keep h80 eG77 (by decide)
              have h82 := h82.keep h80 eG77 (by decide)
              have h91 := h91.keep h80 eG77 (by decide)
              have h92 := h92.keep h80 eG77 (by decide)
              have h110 := h110.keep h80 eG77 (by decide)
              have h111 := h111.keep h80 eG77 (by decide)
              have hst := (fx.rf (o := o) (S := [280]) (G := G51)).wr h80 eG77 (List.mem_singleton.mpr rfl)
              have ptrI_0 := trI.fr hst ptrI_0 (by decide) (by decide) (by decide) (by decide) (by decide) (by decide) (by decide) (by decide) (by decide) (by decide) (by decide) (by decide) (by decide) (by decide) (by decide) (by decide) (by decide) (by decide)
              have hlen := (z_len eG77).trans hlen
              have hsl := (z_sl h80 eG77 rfl).trans hsl
              have hfr := hfr.wr h80 eG77 (by decide)
              have h80 := h80.kept eG77
              change ab_W _ _ _ (List.set G51 80 (ab_ob 12 (mof m_thrown m_taped m_length m_out m_wide m_gathered m_sets m_ranges m_nodes ((m_at + be) + 0) m_flags m_fault m_place m_numbered m_depth m_value m_isNot m_least0 m_most0 m_slot m_work m_got m_rowMany m_charAt m_charWide m_trail m_isMatch m_matchGroups m_allFrom m_allBefore m_founds m_pieces m_writtenMany m_templateWide m_tooMuch))) 123 [some (vR 80), some (vz be), some (vz m_at), some (vz 0)] [] _
              rw [← eG77]
              refine ab_aload_n d_MO_readRepeat_123 rfl ?_
              refine ab_aload_n d_MO_readRepeat_124 rfl ?_
              refine ab_getf (fs := mof m_thrown m_taped m_length m_out m_wide m_gathered m_sets m_ranges m_nodes ((m_at + be) + 0) m_flags m_fault m_place m_numbered m_depth m_value m_isNot m_least0 m_most0 m_slot m_work m_got m_rowMany m_charAt m_charWide m_trail m_isMatch m_matchGroups m_allFrom m_allBefore m_founds m_pieces m_writtenMany m_templateWide m_tooMuch) f_MO_403 d_MO_readRepeat_125 h80.2.2 rfl ?_
              refine ab_aload_n d_MO_readRepeat_128 rfl ?_
              refine ab_getf (fs := mof m_thrown m_taped m_length m_out m_wide m_gathered m_sets m_ranges m_nodes ((m_at + be) + 0) m_flags m_fault m_place m_numbered m_depth m_value m_isNot m_least0 m_most0 m_slot m_work m_got m_rowMany m_charAt m_charWide m_trail m_isMatch m_matchGroups m_allFrom m_allBefore m_founds m_pieces m_writtenMany m_templateWide m_tooMuch) f_MO_406 d_MO_readRepeat_129 h80.2.2 rfl ?_
              refine ab_iload_n d_MO_readRepeat_132 rfl ?_
              refine ab_aload_n d_MO_readRepeat_133 rfl ?_
              refine zz_bipush d_MO_readRepeat_134 (by decide) ?_
              refine ab_callV (d' := d - 1) (as := [vz 8]) (st := [vz 0, vz m_most0, vz m_least0, vR 80]) (r := _) (z8_MO_has (o := o) (m_thrown := m_thrown) (m_taped := m_taped) (m_length := m_length) (m_out := m_out) (m_wide := m_wide) (m_gathered := m_gathered) (m_sets := m_sets) (m_ranges := m_ranges) (m_nodes := m_nodes) (m_at := ((m_at + be) + 0)) (m_flags := m_flags) (m_fault := m_fault) (m_place := m_place) (m_numbered := m_numbered) (m_depth := m_depth) (m_value := m_value) (m_isNot := m_isNot) (m_least0 := m_least0) (m_most0 := m_most0) (m_slot := m_slot) (m_work := m_work) (m_got := m_got) (m_rowMany := m_rowMany) (m_charAt := m_charAt) (m_charWide := m_charWide) (m_trail := m_trail) (m_isMatch := m_isMatch) (m_matchGroups := m_matchGroups) (m_allFrom := m_allFrom) (m_allBefore := m_allBefore) (m_founds := m_founds) (m_pieces := m_pieces) (m_writtenMany := m_writtenMany) (m_templateWide := m_templateWide) (m_tooMuch := m_tooMuch) h80 (by omega)) (fun oc G2 h => by rcases h with ⟨_, h, _⟩ <;> exact ⟨_, h⟩) (by omega) m_MO_has ml_MO_355 im_MO_has se_MO_has c_MO h80.2.2 (Nat.le_of_ble_eq_true rfl) d_MO_readRepeat_136 rfl ?_
              intro v G78 hq
              rcases hq with ⟨v79, hv, hGe, hq80, hq81⟩
              cases hv
              rw [hGe]
              change ab_W _ _ _ G77 139 [some (vR 80), some (vz be), some (vz m_at), some (vz 0)] [vz v79, vz 0, vz m_most0, vz m_least0, vR 80] _
              refine zz_icmp_eq (tgt := 146) d_MO_readRepeat_139 (by decide) (by decide) (by omega) (fun c82 => ?_) (fun c82 => ?_)
              · refine zz_iconst d_MO_readRepeat_146 ?_
                refine ab_callV (d' := d - 1) (as := [vz m_least0, vz m_most0, vz 0]) (st := []) (r := _) (z_MO_repeat (o := o) (m_thrown := m_thrown) (m_taped := m_taped) (m_length := m_length) (m_out := m_out) (m_wide := m_wide) (m_gathered := m_gathered) (m_sets := m_sets) (m_ranges := m_ranges) (m_nodes := m_nodes) (m_at := ((m_at + be) + 0)) (m_flags := m_flags) (m_fault := m_fault) (m_place := m_place) (m_numbered := m_numbered) (m_depth := m_depth) (m_value := m_value) (m_isNot := m_isNot) (m_least0 := m_least0) (m_most0 := m_most0) (m_slot := m_slot) (m_work := m_work) (m_got := m_got) (m_rowMany := m_rowMany) (m_charAt := m_charAt) (m_charWide := m_charWide) (m_trail := m_trail) (m_isMatch := m_isMatch) (m_matchGroups := m_matchGroups) (m_allFrom := m_allFrom) (m_allBefore := m_allBefore) (m_founds := m_founds) (m_pieces := m_pieces) (m_writtenMany := m_writtenMany) (m_templateWide := m_templateWide) (m_tooMuch := m_tooMuch) (le := m_least0) (mo := m_most0) (lz := 0) (ls := ls) (SV := SV) (ro := ro) (vv := vv) (a1_ := a1_) (b1_ := b1_) (c1_ := c1_) (d1_ := d1_) (e1_ := e1_) (mo9 := mo9) (nu9 := 0) (fo9 := 0) (t1_ := t1_) (ao1_ := ao1_) (ro1_ := ro1_) (ts1_ := ts1_) (RL := RL) (RH := RH) h80 ptrI_0 (by omega) (by omega) (by omega) (by omega) (by omega) (by omega) (by omega)) (fun oc G2 h => by rcases h with ⟨h, _⟩ <;> exact ⟨_, h⟩) (by omega) m_MO_repeat ml_MO_409 im_MO_repeat se_MO_repeat c_MO h80.2.2 (Nat.le_of_ble_eq_true rfl) d_MO_readRepeat_147 rfl ?_
                intro v G83 hq
                rcases hq with ⟨hv, hfk, hlk, hsk, hN80, pNtrI_0⟩
                cases hv
                have h84 := hfk.get h84 (by decide)
                have h87 := hfk.get h87 (by decide)
                have h88 := hfk.get h88 (by decide)
                have h93 := hfk.get h93 (by decide)
                have h81 := hfk.get h81 (by decide)
                have h82 := hfk.get h82 (by decide)
                have h91 := hfk.get h91 (by decide)
                have h92 := hfk.get h92 (by decide)
                have h110 := hfk.get h110 (by decide)
                have h111 := hfk.get h111 (by decide)
                have ptrI_0 := pNtrI_0
                have hfr := hfr.tr hfk (by decide)
                have hlen := hlk.trans hlen
                have hsl := hsk.trans hsl
                have h80 := hN80
                change ab_W _ _ _ G83 150 [some (vR 80), some (vz be), some (vz m_at), some (vz 0)] [] _
                refine ab_vret rfl d_MO_readRepeat_150 ?_
                rw [hQ]; exact (Or.inl ⟨_, _, _, _, _, _, _, _, _, _, _, _, _, _, _, _, _, _, _, _, _, _, ((a1_, b1_, c1_, d1_, (e1_ - ls + (tms m_least0 mo9 * ls + mre m_least0 mo9))) :: t1_), 0, 0, SV, ((ao1_, (mnC ro (mnR m_least0 mo9 0 vv))) :: ts1_), mnI, mnI, na, nl, rfl, hfr, hlen, hsl, h80, h87, h88, h93, h91, h92, h110, h111, ptrI_0, (by omega), (by first | exact jmk | exact rgs_w jmk (by omega)), (by first | exact jrl | exact rgs_w jrl (by omega)), (by first | exact jrh | exact rgs_w jrh (by omega)), (by first | exact jns | exact rgs_w jns (by omega)), (by first | exact jnm | exact rgs_w jnm (by omega)), (by omega), (by exact jnj), (by exact sb_rep (by omega) hrp (by unfold tooR; omega) (by unfold askR; omega)), (by exact ss_rep hrp (by first | exact lz_0 (by omega) | exact lz_1 (by omega)))⟩)
              · refine zz_iconst d_MO_readRepeat_142 ?_
                refine ab_goto (tgt := 147) d_MO_readRepeat_143 (by decide) ?_
                refine ab_callV (d' := d - 1) (as := [vz m_least0, vz m_most0, vz 1]) (st := []) (r := _) (z_MO_repeat (o := o) (m_thrown := m_thrown) (m_taped := m_taped) (m_length := m_length) (m_out := m_out) (m_wide := m_wide) (m_gathered := m_gathered) (m_sets := m_sets) (m_ranges := m_ranges) (m_nodes := m_nodes) (m_at := ((m_at + be) + 0)) (m_flags := m_flags) (m_fault := m_fault) (m_place := m_place) (m_numbered := m_numbered) (m_depth := m_depth) (m_value := m_value) (m_isNot := m_isNot) (m_least0 := m_least0) (m_most0 := m_most0) (m_slot := m_slot) (m_work := m_work) (m_got := m_got) (m_rowMany := m_rowMany) (m_charAt := m_charAt) (m_charWide := m_charWide) (m_trail := m_trail) (m_isMatch := m_isMatch) (m_matchGroups := m_matchGroups) (m_allFrom := m_allFrom) (m_allBefore := m_allBefore) (m_founds := m_founds) (m_pieces := m_pieces) (m_writtenMany := m_writtenMany) (m_templateWide := m_templateWide) (m_tooMuch := m_tooMuch) (le := m_least0) (mo := m_most0) (lz := 1) (ls := ls) (SV := SV) (ro := ro) (vv := vv) (a1_ := a1_) (b1_ := b1_) (c1_ := c1_) (d1_ := d1_) (e1_ := e1_) (mo9 := mo9) (nu9 := 0) (fo9 := 0) (t1_ := t1_) (ao1_ := ao1_) (ro1_ := ro1_) (ts1_ := ts1_) (RL := RL) (RH := RH) h80 ptrI_0 (by omega) (by omega) (by omega) (by omega) (by omega) (by omega) (by omega)) (fun oc G2 h => by rcases h with ⟨h, _⟩ <;> exact ⟨_, h⟩) (by omega) m_MO_repeat ml_MO_409 im_MO_repeat se_MO_repeat c_MO h80.2.2 (Nat.le_of_ble_eq_true rfl) d_MO_readRepeat_147 rfl ?_
                intro v G84 hq
                rcases hq with ⟨hv, hfk, hlk, hsk, hN80, pNtrI_0⟩
                cases hv
                have h84 := hfk.get h84 (by decide)
                have h87 := hfk.get h87 (by decide)
                have h88 := hfk.get h88 (by decide)
                have h93 := hfk.get h93 (by decide)
                have h81 := hfk.get h81 (by decide)
                have h82 := hfk.get h82 (by decide)
                have h91 := hfk.get h91 (by decide)
                have h92 := hfk.get h92 (by decide)
                have h110 := hfk.get h110 (by decide)
                have h111 := hfk.get h111 (by decide)
                have ptrI_0 := pNtrI_0
                have hfr := hfr.tr hfk (by decide)
                have hlen := hlk.trans hlen
                have hsl := hsk.trans hsl
                have h80 := hN80
                change ab_W _ _ _ G84 150 [some (vR 80), some (vz be), some (vz m_at), some (vz 0)] [] _
                refine ab_vret rfl d_MO_readRepeat_150 ?_
                rw [hQ]; exact (Or.inl ⟨_, _, _, _, _, _, _, _, _, _, _, _, _, _, _, _, _, _, _, _, _, _, ((a1_, b1_, c1_, d1_, (e1_ - ls + (tms m_least0 mo9 * ls + mre m_least0 mo9))) :: t1_), 0, 0, SV, ((ao1_, (mnC ro (mnR m_least0 mo9 1 vv))) :: ts1_), mnI, mnI, na, nl, rfl, hfr, hlen, hsl, h80, h87, h88, h93, h91, h92, h110, h111, ptrI_0, (by omega), (by first | exact jmk | exact rgs_w jmk (by omega)), (by first | exact jrl | exact rgs_w jrl (by omega)), (by first | exact jrh | exact rgs_w jrh (by omega)), (by first | exact jns | exact rgs_w jns (by omega)), (by first | exact jnm | exact rgs_w jnm (by omega)), (by omega), (by exact jnj), (by exact sb_rep (by omega) hrp (by unfold tooR; omega) (by unfold askR; omega)), (by exact ss_rep hrp (by first | exact lz_0 (by omega) | exact lz_1 (by omega)))⟩)
          · refine ab_aload_n d_MO_readRepeat_64 rfl ?_
            refine zz_bipush d_MO_readRepeat_65 (by decide) ?_
            refine ab_iload_n d_MO_readRepeat_67 rfl ?_
            refine ab_callV (d' := d - 1) (as := [vz 9, vz m_at]) (st := []) (r := _) (z_MO_wrong (o := o) (m_thrown := m_thrown) (m_taped := m_taped) (m_length := m_length) (m_out := m_out) (m_wide := m_wide) (m_gathered := m_gathered) (m_sets := m_sets) (m_ranges := m_ranges) (m_nodes := m_nodes) (m_at := m_at) (m_flags := m_flags) (m_fault := m_fault) (m_place := m_place) (m_numbered := m_numbered) (m_depth := m_depth) (m_value := m_value) (m_isNot := m_isNot) (m_least0 := m_least0) (m_most0 := m_most0) (m_slot := m_slot) (m_work := m_work) (m_got := m_got) (m_rowMany := m_rowMany) (m_charAt := m_charAt) (m_charWide := m_charWide) (m_trail := m_trail) (m_isMatch := m_isMatch) (m_matchGroups := m_matchGroups) (m_allFrom := m_allFrom) (m_allBefore := m_allBefore) (m_founds := m_founds) (m_pieces := m_pieces) (m_writtenMany := m_writtenMany) (m_templateWide := m_templateWide) (m_tooMuch := m_tooMuch) (x := 9) (y := m_at) h80 (by omega) (by omega)) (fun oc G2 h => by rcases h with ⟨h, _⟩ | ⟨h, _⟩ <;> exact ⟨_, h⟩) (by omega) m_MO_wrong ml_MO_304 im_MO_wrong se_MO_wrong c_MO h80.2.2 (Nat.le_of_ble_eq_true rfl) d_MO_readRepeat_68 rfl ?_
            intro v G85 hq
            rcases hq with ⟨hv, hfk, hlk, hsk, hN80, hq86⟩ | ⟨hv, hGe, hq87⟩
            · cases hv
              have h84 := hfk.get h84 (by decide)
              have h87 := hfk.get h87 (by decide)
              have h88 := hfk.get h88 (by decide)
              have h93 := hfk.get h93 (by decide)
              have h81 := hfk.get h81 (by decide)
              have h82 := hfk.get h82 (by decide)
              have h91 := hfk.get h91 (by decide)
              have h92 := hfk.get h92 (by decide)
              have h110 := hfk.get h110 (by decide)
              have h111 := hfk.get h111 (by decide)
              have h94 := hfk.get h94 (by decide)
              have h95 := hfk.get h95 (by decide)
              have h96 := hfk.get h96 (by decide)
              have h97 := hfk.get h97 (by decide)
              have h98 := hfk.get h98 (by decide)
              have h99 := hfk.get h99 (by decide)
              have h100 := hfk.get h100 (by decide)
              have h101 := hfk.get h101 (by decide)
              have h90 := hfk.get h90 (by decide)
              have h89 := hfk.get h89 (by decide)
              have h105 := hfk.get h105 (by decide)
              have h106 := hfk.get h106 (by decide)
              have h107 := hfk.get h107 (by decide)
              have h108 := hfk.get h108 (by decide)
              have h109 := hfk.get h109 (by decide)
              have h102 := hfk.get h102 (by decide)
              have h103 := hfk.get h103 (by decide)
              have h104 := hfk.get h104 (by decide)
              have hfr := hfr.tr hfk (by decide)
              have hlen := hlk.trans hlen
              have hsl := hsk.trans hsl
              have h80 := hN80
              change ab_W _ _ _ G85 71 [some (vR 80), some (vz be), some (vz m_at), none] [] _
              refine ab_aload_n d_MO_readRepeat_71 rfl ?_
              refine ab_getf (fs := mof m_thrown m_taped m_length m_out m_wide m_gathered m_sets m_ranges m_nodes m_at m_flags 9 m_at m_numbered m_depth m_value m_isNot m_least0 m_most0 m_slot m_work m_got m_rowMany m_charAt m_charWide m_trail m_isMatch m_matchGroups m_allFrom m_allBefore m_founds m_pieces m_writtenMany m_templateWide m_tooMuch) f_MO_273 d_MO_readRepeat_72 h80.2.2 rfl ?_
              refine zz_if_le (tgt := 79) d_MO_readRepeat_75 (by decide) (by decide) (fun c88 => absurd c88 (by decide)) (fun c88 => ?_)
              have ptrI_0 : trI o G85 0 m_nodes m_sets (m_depth + 1) (-1) 0 0 ((a1_, b1_, c1_, d1_, e1_) :: t1_) rp ls 0 SV ((ao1_, ro1_) :: ts1_) ro vv mnI RL RH m_ranges 0 0 := ⟨K, O, Fi, Be, Le, Mo, Z, LZ, SM, SA, QF, QL, AF, AL, SD, OA, OF, ON, h94, h95, h96, h97, h98, h99, h100, h101, h90, h89, h105, h106, h107, h108, h109, h102, h103, h104, jk, jo, jfi, jbe, jle, jmo, jz, jlz, jsm, jsa, jqf, jql, jaf, jal, jsd, joa, jof, jon, jt, (by omega), (fun h => absurd h (by decide)), (fun h => absurd h (by decide)), (fun h => absurd h (by decide)), (fun h => absurd h (by decide)), (fun h => absurd h (by decide)), (fun h => absurd h (by decide)), jss, jsv⟩
              refine ab_vret rfl d_MO_readRepeat_78 ?_
              rw [hQ]; exact (Or.inr ⟨_, _, _, _, _, _, _, _, _, _, _, _, _, _, _, _, _, _, _, _, _, _, ((a1_, b1_, c1_, d1_, e1_) :: t1_), rp, ls, SV, ((ao1_, ro1_) :: ts1_), ro, vv, rfl, hfr, hlen, hsl, h80, h87, h88, h93, h91, h92, h110, h111, ptrI_0, (by omega), (by first | exact jmk | exact rgs_w jmk (by omega)), (by first | exact jrl | exact rgs_w jrl (by omega)), (by first | exact jrh | exact rgs_w jrh (by omega)), (by first | exact jns | exact rgs_w jns (by omega)), (by first | exact jnm | exact rgs_w jnm (by omega)), (by exact sf_9 (by omega) hrp (by unfold tooR; omega))⟩)
            · cases hv
              rw [hGe]
              change ab_W _ _ _ G 71 [some (vR 80), some (vz be), some (vz m_at), none] [] _
              exfalso; omega
  · refine ab_aload_n d_MO_readRepeat_18 rfl ?_
    refine zz_bipush d_MO_readRepeat_19 (by decide) ?_
    refine ab_iload_n d_MO_readRepeat_21 rfl ?_
    refine ab_callV (d' := d - 1) (as := [vz 8, vz m_at]) (st := []) (r := _) (z_MO_wrong (o := o) (m_thrown := m_thrown) (m_taped := m_taped) (m_length := m_length) (m_out := m_out) (m_wide := m_wide) (m_gathered := m_gathered) (m_sets := m_sets) (m_ranges := m_ranges) (m_nodes := m_nodes) (m_at := m_at) (m_flags := m_flags) (m_fault := m_fault) (m_place := m_place) (m_numbered := m_numbered) (m_depth := m_depth) (m_value := m_value) (m_isNot := m_isNot) (m_least0 := m_least0) (m_most0 := m_most0) (m_slot := m_slot) (m_work := m_work) (m_got := m_got) (m_rowMany := m_rowMany) (m_charAt := m_charAt) (m_charWide := m_charWide) (m_trail := m_trail) (m_isMatch := m_isMatch) (m_matchGroups := m_matchGroups) (m_allFrom := m_allFrom) (m_allBefore := m_allBefore) (m_founds := m_founds) (m_pieces := m_pieces) (m_writtenMany := m_writtenMany) (m_templateWide := m_templateWide) (m_tooMuch := m_tooMuch) (x := 8) (y := m_at) h80 (by omega) (by omega)) (fun oc G2 h => by rcases h with ⟨h, _⟩ | ⟨h, _⟩ <;> exact ⟨_, h⟩) (by omega) m_MO_wrong ml_MO_304 im_MO_wrong se_MO_wrong c_MO h80.2.2 (Nat.le_of_ble_eq_true rfl) d_MO_readRepeat_22 rfl ?_
    intro v G89 hq
    rcases hq with ⟨hv, hfk, hlk, hsk, hN80, hq90⟩ | ⟨hv, hGe, hq91⟩
    · cases hv
      have h84 := hfk.get h84 (by decide)
      have h87 := hfk.get h87 (by decide)
      have h88 := hfk.get h88 (by decide)
      have h93 := hfk.get h93 (by decide)
      have h81 := hfk.get h81 (by decide)
      have h82 := hfk.get h82 (by decide)
      have h91 := hfk.get h91 (by decide)
      have h92 := hfk.get h92 (by decide)
      have h110 := hfk.get h110 (by decide)
      have h111 := hfk.get h111 (by decide)
      have h94 := hfk.get h94 (by decide)
      have h95 := hfk.get h95 (by decide)
      have h96 := hfk.get h96 (by decide)
      have h97 := hfk.get h97 (by decide)
      have h98 := hfk.get h98 (by decide)
      have h99 := hfk.get h99 (by decide)
      have h100 := hfk.get h100 (by decide)
      have h101 := hfk.get h101 (by decide)
      have h90 := hfk.get h90 (by decide)
      have h89 := hfk.get h89 (by decide)
      have h105 := hfk.get h105 (by decide)
      have h106 := hfk.get h106 (by decide)
      have h107 := hfk.get h107 (by decide)
      have h108 := hfk.get h108 (by decide)
      have h109 := hfk.get h109 (by decide)
      have h102 := hfk.get h102 (by decide)
      have h103 := hfk.get h103 (by decide)
      have h104 := hfk.get h104 (by decide)
      have hfr := hfr.tr hfk (by decide)
      have hlen := hlk.trans hlen
      have hsl := hsk.trans hsl
      have h80 := hN80
      change ab_W _ _ _ G89 25 [some (vR 80), some (vz be), some (vz m_at), none] [] _
      refine ab_goto (tgt := 71) d_MO_readRepeat_25 (by decide) ?_
      refine ab_aload_n d_MO_readRepeat_71 rfl ?_
      refine ab_getf (fs := mof m_thrown m_taped m_length m_out m_wide m_gathered m_sets m_ranges m_nodes m_at m_flags 8 m_at m_numbered m_depth m_value m_isNot m_least0 m_most0 m_slot m_work m_got m_rowMany m_charAt m_charWide m_trail m_isMatch m_matchGroups m_allFrom m_allBefore m_founds m_pieces m_writtenMany m_templateWide m_tooMuch) f_MO_273 d_MO_readRepeat_72 h80.2.2 rfl ?_
      refine zz_if_le (tgt := 79) d_MO_readRepeat_75 (by decide) (by decide) (fun c92 => absurd c92 (by decide)) (fun c92 => ?_)
      have ptrI_0 : trI o G89 0 m_nodes m_sets (m_depth + 1) (-1) 0 0 ((a1_, b1_, c1_, d1_, e1_) :: t1_) rp ls 0 SV ((ao1_, ro1_) :: ts1_) ro vv mnI RL RH m_ranges 0 0 := ⟨K, O, Fi, Be, Le, Mo, Z, LZ, SM, SA, QF, QL, AF, AL, SD, OA, OF, ON, h94, h95, h96, h97, h98, h99, h100, h101, h90, h89, h105, h106, h107, h108, h109, h102, h103, h104, jk, jo, jfi, jbe, jle, jmo, jz, jlz, jsm, jsa, jqf, jql, jaf, jal, jsd, joa, jof, jon, jt, (by omega), (fun h => absurd h (by decide)), (fun h => absurd h (by decide)), (fun h => absurd h (by decide)), (fun h => absurd h (by decide)), (fun h => absurd h (by decide)), (fun h => absurd h (by decide)), jss, jsv⟩
      refine ab_vret rfl d_MO_readRepeat_78 ?_
      rw [hQ]; exact (Or.inr ⟨_, _, _, _, _, _, _, _, _, _, _, _, _, _, _, _, _, _, _, _, _, _, ((a1_, b1_, c1_, d1_, e1_) :: t1_), rp, ls, SV, ((ao1_, ro1_) :: ts1_), ro, vv, rfl, hfr, hlen, hsl, h80, h87, h88, h93, h91, h92, h110, h111, ptrI_0, (by omega), (by first | exact jmk | exact rgs_w jmk (by omega)), (by first | exact jrl | exact rgs_w jrl (by omega)), (by first | exact jrh | exact rgs_w jrh (by omega)), (by first | exact jns | exact rgs_w jns (by omega)), (by first | exact jnm | exact rgs_w jnm (by omega)), (by exact sf_8 (by omega) hrp)⟩)
    · cases hv
      rw [hGe]
      change ab_W _ _ _ G 25 [some (vR 80), some (vz be), some (vz m_at), none] [] _
      exfalso; omega
