def q10 : Int → Int := fun i => ([1, 10, 100, 1000, 10000] : List Int).getD i.toNat 0
theorem q10_in : ∀ n : Int, 0 ≤ n → n < 5 → 1 ≤ q10 n ∧ q10 n ≤ 10000 := z_all 5 (by decide)
theorem q10_s : ∀ n : Int, 0 ≤ n → n < 4 → q10 (n + 1) = 10 * q10 n := z_all (Q := fun n => q10 (n + 1) = 10 * q10 n) 4 (by decide)
set_option maxRecDepth 100000 in
set_option maxHeartbeats 4000000 in
theorem y_MO_openNumbered_66 {X : ab_X} {d : Nat} {Q : Outcome → ab_G → Prop} {o : Nat → Nat} {G0 : ab_G} {m_thrown : Int} {m_taped : Int} {m_length : Int} {m_out : Int} {m_wide : Int} {m_gathered : Int} {m_sets : Int} {m_ranges : Int} {m_nodes : Int} {m_at : Int} {m_flags : Int} {m_fault : Int} {m_place : Int} {m_numbered : Int} {m_depth : Int} {m_value : Int} {m_isNot : Int} {m_least0 : Int} {m_most0 : Int} {m_slot : Int} {m_work : Int} {m_got : Int} {m_rowMany : Int} {m_charAt : Int} {m_charWide : Int} {m_trail : Int} {m_isMatch : Int} {m_matchGroups : Int} {m_allFrom : Int} {m_allBefore : Int} {m_founds : Int} {m_pieces : Int} {m_writtenMany : Int} {m_templateWide : Int} {m_tooMuch : Int} {A_tape : Int → Int} {wh : Int} {fr : Int} {n : Int} (n18 : ab_n0 = 18) (cta : 0 ≤ m_taped ∧ m_taped ≤ 2000) (jtp : rgs A_tape 2000 0 255) (cfn : 0 ≤ n ∧ n ≤ 12 ∧ (n = 0 ∨ (0 ≤ fr ∧ fr + n ≤ m_taped)) ∧ -1 ≤ fr ∧ fr ≤ 2000) (cnu : 0 ≤ m_numbered ∧ m_numbered ≤ 9) (hd : 1 ≤ d) : ∀ (mz : Nat) {G : ab_G} {i_ : Int} {NS : Int → Int}, (cc o G 80 280 (ab_ob 12 (mof m_thrown m_taped m_length m_out m_wide m_gathered m_sets m_ranges m_nodes m_at m_flags m_fault m_place m_numbered m_depth m_value m_isNot m_least0 m_most0 m_slot m_work m_got m_rowMany m_charAt m_charWide m_trail m_isMatch m_matchGroups m_allFrom m_allBefore m_founds m_pieces m_writtenMany m_templateWide m_tooMuch))) → (cc o G 84 284 (za 2000 A_tape)) → (cc o G 110 310 (za 120 NS)) → (0 ≤ i_ ∧ i_ ≤ n) → (rgs NS 120 0 255) → (fx o o [310] G0 G) → (G.length = G0.length) → (ab_slots G = ab_slots G0) → (Int.toNat (n - i_) < mz) → (∀ (G2 : ab_G) (NS2 : Int → Int), (cc o G2 110 310 (za 120 NS2)) → (rgs NS2 120 0 255) → (fx o o [310] G0 G2) → (G2.length = G0.length) → (ab_slots G2 = ab_slots G0) → ab_W X (ab_pl y_MO_openNumbered b_MO_openNumbered 5 none) d G2 102 [some (vR 80), some (vz wh), some (vz fr), some (vz n), none] [] Q) → ab_W X (ab_pl y_MO_openNumbered b_MO_openNumbered 5 none) d G 66 [some (vR 80), some (vz wh), some (vz fr), some (vz n), some (vz i_)] [] Q := by
  intro mz
  induction mz with
  | zero => intro G i_ NS h80 h84 h110 ci jns hfr hlen hsl hm hk0; exact absurd hm (Nat.not_lt_zero _)
  | succ mz ih =>
    intro G i_ NS h80 h84 h110 ci jns hfr hlen hsl hm hk0
    refine ab_iload d_MO_openNumbered_66 rfl ?_
    refine ab_iload_n d_MO_openNumbered_68 rfl ?_
    refine zz_icmp_ge (tgt := 102) d_MO_openNumbered_69 (by decide) (by omega) (by omega) (fun c1 => ?_) (fun c1 => ?_)
    · refine ab_less (L' := [some (vR 80), some (vz wh), some (vz fr), some (vz n), none]) (fun i v h => by rcases i with _ | _ | _ | _ | _ | i <;> first | exact h | (simp at h)) ?_
      exact hk0 _ _ h110 (by first | exact jns | exact rgs_w jns (by omega)) hfr hlen hsl
    · refine ab_aload_n d_MO_openNumbered_72 rfl ?_
      refine ab_getf (fs := mof m_thrown m_taped m_length m_out m_wide m_gathered m_sets m_ranges m_nodes m_at m_flags m_fault m_place m_numbered m_depth m_value m_isNot m_least0 m_most0 m_slot m_work m_got m_rowMany m_charAt m_charWide m_trail m_isMatch m_matchGroups m_allFrom m_allBefore m_founds m_pieces m_writtenMany m_templateWide m_tooMuch) f_MO_103 d_MO_openNumbered_73 h80.2.2 rfl ?_
      refine zz_bipush d_MO_openNumbered_76 (by decide) ?_
      refine ab_aload_n d_MO_openNumbered_78 rfl ?_
      refine ab_getf (fs := mof m_thrown m_taped m_length m_out m_wide m_gathered m_sets m_ranges m_nodes m_at m_flags m_fault m_place m_numbered m_depth m_value m_isNot m_least0 m_most0 m_slot m_work m_got m_rowMany m_charAt m_charWide m_trail m_isMatch m_matchGroups m_allFrom m_allBefore m_founds m_pieces m_writtenMany m_templateWide m_tooMuch) f_MO_395 d_MO_openNumbered_79 h80.2.2 rfl ?_
      refine zz_imul d_MO_openNumbered_82 ?_
      refine ab_iload d_MO_openNumbered_83 rfl ?_
      refine zz_iadd d_MO_openNumbered_85 ?_
      refine ab_aload_n d_MO_openNumbered_86 rfl ?_
      refine ab_getf (fs := mof m_thrown m_taped m_length m_out m_wide m_gathered m_sets m_ranges m_nodes m_at m_flags m_fault m_place m_numbered m_depth m_value m_isNot m_least0 m_most0 m_slot m_work m_got m_rowMany m_charAt m_charWide m_trail m_isMatch m_matchGroups m_allFrom m_allBefore m_founds m_pieces m_writtenMany m_templateWide m_tooMuch) f_MO_19 d_MO_openNumbered_87 h80.2.2 rfl ?_
      refine ab_iload_n d_MO_openNumbered_90 rfl ?_
      refine ab_iload d_MO_openNumbered_91 rfl ?_
      refine zz_iadd d_MO_openNumbered_93 ?_
      refine zz_iald d_MO_openNumbered_94 h84 (by omega) ?_
      have hq2 := jtp (fr + i_) (by omega) (by omega)
      refine zz_iast d_MO_openNumbered_95 h110 (by omega) (h110.2.1 (by decide)) ?_
      obtain ⟨G3, eG3⟩ : ∃ z : ab_G, z = List.set G 110 (za 120 (zu NS ((12 * m_numbered) + i_) (A_tape (fr + i_)))) := ⟨_, rfl⟩
      have h80 := h80.keep h110 eG3 (by decide)
      have h84 := h84.keep h110 eG3 (by decide)
      have hlen := (z_len eG3).trans hlen
      have hsl := (z_sl h110 eG3 rfl).trans hsl
      have hfr := hfr.wr h110 eG3 (by decide)
      have h110 := h110.kept eG3
      change ab_W _ _ _ (List.set G 110 (za 120 (zu NS ((12 * m_numbered) + i_) (A_tape (fr + i_))))) 96 [some (vR 80), some (vz wh), some (vz fr), some (vz n), some (vz i_)] [] _
      rw [← eG3]
      refine zz_iinc d_MO_openNumbered_96 rfl (Nat.le_of_ble_eq_true rfl) (Nat.le_of_ble_eq_true rfl) rfl ?_
      change ab_W _ _ _ G3 99 [some (vR 80), some (vz wh), some (vz fr), some (vz n), some (vz (i_ + 1))] [] _
      refine ab_goto (tgt := 66) d_MO_openNumbered_99 (by decide) ?_
      exact ih (i_ := (i_ + 1)) (NS := (zu NS ((12 * m_numbered) + i_) (A_tape (fr + i_)))) h80 h84 h110 (by omega) (rgs_zu jns (by omega)) hfr hlen hsl (by omega) hk0
set_option maxRecDepth 100000 in
set_option maxHeartbeats 4000000 in
theorem z_MO_openNumbered {X : ab_X} {d : Nat} {o : Nat → Nat} {G : ab_G} {m_thrown : Int} {m_taped : Int} {m_length : Int} {m_out : Int} {m_wide : Int} {m_gathered : Int} {m_sets : Int} {m_ranges : Int} {m_nodes : Int} {m_at : Int} {m_flags : Int} {m_fault : Int} {m_place : Int} {m_numbered : Int} {m_depth : Int} {m_value : Int} {m_isNot : Int} {m_least0 : Int} {m_most0 : Int} {m_slot : Int} {m_work : Int} {m_got : Int} {m_rowMany : Int} {m_charAt : Int} {m_charWide : Int} {m_trail : Int} {m_isMatch : Int} {m_matchGroups : Int} {m_allFrom : Int} {m_allBefore : Int} {m_founds : Int} {m_pieces : Int} {m_writtenMany : Int} {m_templateWide : Int} {m_tooMuch : Int} {A_tape : Int → Int} {LO : Int → Int} {HI : Int → Int} {MK : Int → Int} {RL : Int → Int} {RH : Int → Int} {NS : Int → Int} {NM : Int → Int} {wh : Int} {fr : Int} {n : Int} (h80 : cc o G 80 280 (ab_ob 12 (mof m_thrown m_taped m_length m_out m_wide m_gathered m_sets m_ranges m_nodes m_at m_flags m_fault m_place m_numbered m_depth m_value m_isNot m_least0 m_most0 m_slot m_work m_got m_rowMany m_charAt m_charWide m_trail m_isMatch m_matchGroups m_allFrom m_allBefore m_founds m_pieces m_writtenMany m_templateWide m_tooMuch))) (h84 : cc o G 84 284 (za 2000 A_tape)) (h87 : cc o G 87 287 (za 9000 LO)) (h88 : cc o G 88 288 (za 9000 HI)) (h93 : cc o G 93 293 (zb 1200 MK)) (h81 : cc o G 81 281 (za 13 tbA)) (h82 : cc o G 82 282 (za 66 tbT)) (h91 : cc o G 91 291 (za 24000 RL)) (h92 : cc o G 92 292 (za 24000 RH)) (h110 : cc o G 110 310 (za 120 NS)) (h111 : cc o G 111 311 (za 10 NM)) (ptrI_0 : trI o G 0 m_nodes m_sets (m_depth + 1) (-1) 0 0) (n18 : ab_n0 = 18) (cta : 0 ≤ m_taped ∧ m_taped ≤ 2000) (jtp : rgs A_tape 2000 0 255) (jmk : rgs MK 1200 0 1) (jrl : rgs RL 24000 0 1114111) (jrh : rgs RH 24000 0 1114111) (jns : rgs NS 120 0 255) (jnm : rgs NM 10 0 12) (cf : m_fault = 0) (cat : 0 ≤ m_at ∧ m_at ≤ m_taped) (cpo : 0 ≤ m_nodes ∧ m_nodes + 2 * m_depth + 2 ≤ 2 * m_at ∧ 0 ≤ m_sets ∧ m_sets + 0 ≤ m_at ∧ 0 ≤ m_ranges ∧ m_ranges + 0 ≤ 12 * m_at ∧ 0 ≤ m_depth ∧ m_depth ≤ 30 ∧ 0 ≤ m_numbered ∧ m_numbered ≤ 9 ∧ -2147483648 ≤ m_flags ∧ m_flags ≤ 2147483647 ∧ -2147483648 ≤ m_value ∧ m_value ≤ 2147483647) (cwh : -1 ≤ wh ∧ wh ≤ 2010) (cfn : 0 ≤ n ∧ n ≤ 12 ∧ (n = 0 ∨ (0 ≤ fr ∧ fr + n ≤ m_taped)) ∧ -1 ≤ fr ∧ fr ≤ 2000) (hd : 2 ≤ d) : ab_F X d y_MO_openNumbered (.code y_MO_openNumbered b_MO_openNumbered 5 none) [vR 80, vz wh, vz fr, vz n] G (fun oc G2 => (∃ a2 : Int, ∃ v2 : Int, ∃ nt2 : Int, ∃ w2 : Int, ∃ g2 : Int, ∃ s2 : Int, ∃ r2 : Int, ∃ n2 : Int, ∃ fl2 : Int, ∃ nu2 : Int, ∃ d2 : Int, ∃ le2 : Int, ∃ mo2 : Int, ∃ f2 : Int, ∃ p2 : Int, ∃ LO2 : Int → Int, ∃ HI2 : Int → Int, ∃ MK2 : Int → Int, ∃ RL2 : Int → Int, ∃ RH2 : Int → Int, ∃ NS2 : Int → Int, ∃ NM2 : Int → Int, oc = .returned none ∧ fx o o [280, 287, 288, 293, 291, 292, 310, 311, 294, 295, 296, 297, 298, 299, 300, 301, 290, 289, 305, 306, 307, 308, 309, 302, 303, 304] G G2 ∧ G2.length = G.length ∧ ab_slots G2 = ab_slots G ∧ cc o G2 80 280 (ab_ob 12 (mof m_thrown m_taped m_length m_out w2 g2 s2 r2 n2 a2 fl2 f2 p2 nu2 d2 v2 nt2 le2 mo2 m_slot m_work m_got m_rowMany m_charAt m_charWide m_trail m_isMatch m_matchGroups m_allFrom m_allBefore m_founds m_pieces m_writtenMany m_templateWide m_tooMuch)) ∧ cc o G2 87 287 (za 9000 LO2) ∧ cc o G2 88 288 (za 9000 HI2) ∧ cc o G2 93 293 (zb 1200 MK2) ∧ cc o G2 91 291 (za 24000 RL2) ∧ cc o G2 92 292 (za 24000 RH2) ∧ cc o G2 110 310 (za 120 NS2) ∧ cc o G2 111 311 (za 10 NM2) ∧ trI o G2 0 n2 s2 (d2 + 1) (-1) 0 0 ∧ (f2 = 0 ∧ m_at ≤ a2 ∧ a2 ≤ m_taped ∧ 0 ≤ n2 ∧ n2 + 2 * d2 ≤ 2 * a2 ∧ 0 ≤ s2 ∧ s2 ≤ a2 ∧ 0 ≤ r2 ∧ r2 ≤ 12 * a2 ∧ 0 ≤ d2 ∧ d2 ≤ 30 ∧ 0 ≤ nu2 ∧ nu2 ≤ 9 ∧ -2147483648 ≤ fl2 ∧ fl2 ≤ 2147483647 ∧ -2147483648 ≤ v2 ∧ v2 ≤ 2147483647) ∧ (rgs MK2 1200 0 1) ∧ (rgs RL2 24000 0 1114111) ∧ (rgs RH2 24000 0 1114111) ∧ (rgs NS2 120 0 255) ∧ (rgs NM2 10 0 12)) ∨ (∃ a2 : Int, ∃ v2 : Int, ∃ nt2 : Int, ∃ w2 : Int, ∃ g2 : Int, ∃ s2 : Int, ∃ r2 : Int, ∃ n2 : Int, ∃ fl2 : Int, ∃ nu2 : Int, ∃ d2 : Int, ∃ le2 : Int, ∃ mo2 : Int, ∃ f2 : Int, ∃ p2 : Int, ∃ LO2 : Int → Int, ∃ HI2 : Int → Int, ∃ MK2 : Int → Int, ∃ RL2 : Int → Int, ∃ RH2 : Int → Int, ∃ NS2 : Int → Int, ∃ NM2 : Int → Int, oc = .returned none ∧ fx o o [280, 287, 288, 293, 291, 292, 310, 311, 294, 295, 296, 297, 298, 299, 300, 301, 290, 289, 305, 306, 307, 308, 309, 302, 303, 304] G G2 ∧ G2.length = G.length ∧ ab_slots G2 = ab_slots G ∧ cc o G2 80 280 (ab_ob 12 (mof m_thrown m_taped m_length m_out w2 g2 s2 r2 n2 a2 fl2 f2 p2 nu2 d2 v2 nt2 le2 mo2 m_slot m_work m_got m_rowMany m_charAt m_charWide m_trail m_isMatch m_matchGroups m_allFrom m_allBefore m_founds m_pieces m_writtenMany m_templateWide m_tooMuch)) ∧ cc o G2 87 287 (za 9000 LO2) ∧ cc o G2 88 288 (za 9000 HI2) ∧ cc o G2 93 293 (zb 1200 MK2) ∧ cc o G2 91 291 (za 24000 RL2) ∧ cc o G2 92 292 (za 24000 RH2) ∧ cc o G2 110 310 (za 120 NS2) ∧ cc o G2 111 311 (za 10 NM2) ∧ trI o G2 0 n2 s2 (d2 + 1) (-1) 0 0 ∧ (1 ≤ f2 ∧ f2 ≤ 14 ∧ 0 ≤ a2 ∧ a2 ≤ 4000 ∧ 0 ≤ n2 ∧ n2 ≤ 4200 ∧ 0 ≤ s2 ∧ s2 ≤ 2100 ∧ 0 ≤ r2 ∧ r2 ≤ 24000 ∧ 0 ≤ d2 ∧ d2 ≤ 30 ∧ 0 ≤ nu2 ∧ nu2 ≤ 9 ∧ -2147483648 ≤ fl2 ∧ fl2 ≤ 2147483647 ∧ -2147483648 ≤ v2 ∧ v2 ≤ 2147483647) ∧ (rgs MK2 1200 0 1) ∧ (rgs RL2 24000 0 1114111) ∧ (rgs RH2 24000 0 1114111) ∧ (rgs NS2 120 0 255) ∧ (rgs NM2 10 0 12))) := by
  refine ab_F_of (by decide +kernel) (Nat.le_of_ble_eq_true rfl) ?_
  obtain ⟨Q, hQ⟩ : ∃ z : Outcome → ab_G → Prop, z = (fun oc G2 => (∃ a2 : Int, ∃ v2 : Int, ∃ nt2 : Int, ∃ w2 : Int, ∃ g2 : Int, ∃ s2 : Int, ∃ r2 : Int, ∃ n2 : Int, ∃ fl2 : Int, ∃ nu2 : Int, ∃ d2 : Int, ∃ le2 : Int, ∃ mo2 : Int, ∃ f2 : Int, ∃ p2 : Int, ∃ LO2 : Int → Int, ∃ HI2 : Int → Int, ∃ MK2 : Int → Int, ∃ RL2 : Int → Int, ∃ RH2 : Int → Int, ∃ NS2 : Int → Int, ∃ NM2 : Int → Int, oc = .returned none ∧ fx o o [280, 287, 288, 293, 291, 292, 310, 311, 294, 295, 296, 297, 298, 299, 300, 301, 290, 289, 305, 306, 307, 308, 309, 302, 303, 304] G G2 ∧ G2.length = G.length ∧ ab_slots G2 = ab_slots G ∧ cc o G2 80 280 (ab_ob 12 (mof m_thrown m_taped m_length m_out w2 g2 s2 r2 n2 a2 fl2 f2 p2 nu2 d2 v2 nt2 le2 mo2 m_slot m_work m_got m_rowMany m_charAt m_charWide m_trail m_isMatch m_matchGroups m_allFrom m_allBefore m_founds m_pieces m_writtenMany m_templateWide m_tooMuch)) ∧ cc o G2 87 287 (za 9000 LO2) ∧ cc o G2 88 288 (za 9000 HI2) ∧ cc o G2 93 293 (zb 1200 MK2) ∧ cc o G2 91 291 (za 24000 RL2) ∧ cc o G2 92 292 (za 24000 RH2) ∧ cc o G2 110 310 (za 120 NS2) ∧ cc o G2 111 311 (za 10 NM2) ∧ trI o G2 0 n2 s2 (d2 + 1) (-1) 0 0 ∧ (f2 = 0 ∧ m_at ≤ a2 ∧ a2 ≤ m_taped ∧ 0 ≤ n2 ∧ n2 + 2 * d2 ≤ 2 * a2 ∧ 0 ≤ s2 ∧ s2 ≤ a2 ∧ 0 ≤ r2 ∧ r2 ≤ 12 * a2 ∧ 0 ≤ d2 ∧ d2 ≤ 30 ∧ 0 ≤ nu2 ∧ nu2 ≤ 9 ∧ -2147483648 ≤ fl2 ∧ fl2 ≤ 2147483647 ∧ -2147483648 ≤ v2 ∧ v2 ≤ 2147483647) ∧ (rgs MK2 1200 0 1) ∧ (rgs RL2 24000 0 1114111) ∧ (rgs RH2 24000 0 1114111) ∧ (rgs NS2 120 0 255) ∧ (rgs NM2 10 0 12)) ∨ (∃ a2 : Int, ∃ v2 : Int, ∃ nt2 : Int, ∃ w2 : Int, ∃ g2 : Int, ∃ s2 : Int, ∃ r2 : Int, ∃ n2 : Int, ∃ fl2 : Int, ∃ nu2 : Int, ∃ d2 : Int, ∃ le2 : Int, ∃ mo2 : Int, ∃ f2 : Int, ∃ p2 : Int, ∃ LO2 : Int → Int, ∃ HI2 : Int → Int, ∃ MK2 : Int → Int, ∃ RL2 : Int → Int, ∃ RH2 : Int → Int, ∃ NS2 : Int → Int, ∃ NM2 : Int → Int, oc = .returned none ∧ fx o o [280, 287, 288, 293, 291, 292, 310, 311, 294, 295, 296, 297, 298, 299, 300, 301, 290, 289, 305, 306, 307, 308, 309, 302, 303, 304] G G2 ∧ G2.length = G.length ∧ ab_slots G2 = ab_slots G ∧ cc o G2 80 280 (ab_ob 12 (mof m_thrown m_taped m_length m_out w2 g2 s2 r2 n2 a2 fl2 f2 p2 nu2 d2 v2 nt2 le2 mo2 m_slot m_work m_got m_rowMany m_charAt m_charWide m_trail m_isMatch m_matchGroups m_allFrom m_allBefore m_founds m_pieces m_writtenMany m_templateWide m_tooMuch)) ∧ cc o G2 87 287 (za 9000 LO2) ∧ cc o G2 88 288 (za 9000 HI2) ∧ cc o G2 93 293 (zb 1200 MK2) ∧ cc o G2 91 291 (za 24000 RL2) ∧ cc o G2 92 292 (za 24000 RH2) ∧ cc o G2 110 310 (za 120 NS2) ∧ cc o G2 111 311 (za 10 NM2) ∧ trI o G2 0 n2 s2 (d2 + 1) (-1) 0 0 ∧ (1 ≤ f2 ∧ f2 ≤ 14 ∧ 0 ≤ a2 ∧ a2 ≤ 4000 ∧ 0 ≤ n2 ∧ n2 ≤ 4200 ∧ 0 ≤ s2 ∧ s2 ≤ 2100 ∧ 0 ≤ r2 ∧ r2 ≤ 24000 ∧ 0 ≤ d2 ∧ d2 ≤ 30 ∧ 0 ≤ nu2 ∧ nu2 ≤ 9 ∧ -2147483648 ≤ fl2 ∧ fl2 ≤ 2147483647 ∧ -2147483648 ≤ v2 ∧ v2 ≤ 2147483647) ∧ (rgs MK2 1200 0 1) ∧ (rgs RL2 24000 0 1114111) ∧ (rgs RH2 24000 0 1114111) ∧ (rgs NS2 120 0 255) ∧ (rgs NM2 10 0 12))) := ⟨_, rfl⟩
  rw [← hQ]
  change ab_W X (ab_pl y_MO_openNumbered b_MO_openNumbered 5 none) d G 0 [some (vR 80), some (vz wh), some (vz fr), some (vz n), none] [] Q
  have hfr : fx o o [280, 287, 288, 293, 291, 292, 310, 311, 294, 295, 296, 297, 298, 299, 300, 301, 290, 289, 305, 306, 307, 308, 309, 302, 303, 304] G G := fx.rf
  have hlen : G.length = G.length := rfl
  have hsl : ab_slots G = ab_slots G := rfl
  refine ab_aload_n d_MO_openNumbered_0 rfl ?_
  refine ab_getf (fs := mof m_thrown m_taped m_length m_out m_wide m_gathered m_sets m_ranges m_nodes m_at m_flags m_fault m_place m_numbered m_depth m_value m_isNot m_least0 m_most0 m_slot m_work m_got m_rowMany m_charAt m_charWide m_trail m_isMatch m_matchGroups m_allFrom m_allBefore m_founds m_pieces m_writtenMany m_templateWide m_tooMuch) f_MO_282 d_MO_openNumbered_1 h80.2.2 rfl ?_
  refine zz_bipush d_MO_openNumbered_4 (by decide) ?_
  refine zz_icmp_ne (tgt := 19) d_MO_openNumbered_6 (by decide) (by omega) (by decide) (fun c1 => ?_) (fun c1 => ?_)
  · refine ab_aload_n d_MO_openNumbered_19 rfl ?_
    refine ab_getf (fs := mof m_thrown m_taped m_length m_out m_wide m_gathered m_sets m_ranges m_nodes m_at m_flags m_fault m_place m_numbered m_depth m_value m_isNot m_least0 m_most0 m_slot m_work m_got m_rowMany m_charAt m_charWide m_trail m_isMatch m_matchGroups m_allFrom m_allBefore m_founds m_pieces m_writtenMany m_templateWide m_tooMuch) f_MO_395 d_MO_openNumbered_20 h80.2.2 rfl ?_
    refine zz_bipush d_MO_openNumbered_23 (by decide) ?_
    refine zz_icmp_ne (tgt := 35) d_MO_openNumbered_25 (by decide) (by omega) (by decide) (fun c2 => ?_) (fun c2 => ?_)
    · refine ab_aload_n d_MO_openNumbered_35 rfl ?_
      refine ab_getf (fs := mof m_thrown m_taped m_length m_out m_wide m_gathered m_sets m_ranges m_nodes m_at m_flags m_fault m_place m_numbered m_depth m_value m_isNot m_least0 m_most0 m_slot m_work m_got m_rowMany m_charAt m_charWide m_trail m_isMatch m_matchGroups m_allFrom m_allBefore m_founds m_pieces m_writtenMany m_templateWide m_tooMuch) f_MO_273 d_MO_openNumbered_36 h80.2.2 rfl ?_
      refine zz_if_le (tgt := 43) d_MO_openNumbered_39 (by decide) (by omega) (fun c3 => ?_) (fun c3 => absurd c3 (by omega))
      refine ab_aload_n d_MO_openNumbered_43 rfl ?_
      refine ab_dup d_MO_openNumbered_44 rfl ?_
      refine ab_getf (fs := mof m_thrown m_taped m_length m_out m_wide m_gathered m_sets m_ranges m_nodes m_at m_flags m_fault m_place m_numbered m_depth m_value m_isNot m_least0 m_most0 m_slot m_work m_got m_rowMany m_charAt m_charWide m_trail m_isMatch m_matchGroups m_allFrom m_allBefore m_founds m_pieces m_writtenMany m_templateWide m_tooMuch) f_MO_395 d_MO_openNumbered_45 h80.2.2 rfl ?_
      refine zz_iconst d_MO_openNumbered_48 ?_
      refine zz_iadd d_MO_openNumbered_49 ?_
      refine ab_putf (fs := mof m_thrown m_taped m_length m_out m_wide m_gathered m_sets m_ranges m_nodes m_at m_flags m_fault m_place m_numbered m_depth m_value m_isNot m_least0 m_most0 m_slot m_work m_got m_rowMany m_charAt m_charWide m_trail m_isMatch m_matchGroups m_allFrom m_allBefore m_founds m_pieces m_writtenMany m_templateWide m_tooMuch) f_MO_395 (Or.inl rfl) d_MO_openNumbered_50 h80.2.2 (Nat.le_of_ble_eq_true rfl) (fun _ => ⟨rfl, rfl⟩) (h80.2.1 (by decide)) ?_
      obtain ⟨G4, eG4⟩ : ∃ z : ab_G, z = List.set G 80 (ab_ob 12 (mof m_thrown m_taped m_length m_out m_wide m_gathered m_sets m_ranges m_nodes m_at m_flags m_fault m_place (m_numbered + 1) m_depth m_value m_isNot m_least0 m_most0 m_slot m_work m_got m_rowMany m_charAt m_charWide m_trail m_isMatch m_matchGroups m_allFrom m_allBefore m_founds m_pieces m_writtenMany m_templateWide m_tooMuch)) := ⟨_, rfl⟩
      have h84 := h84.keep h80 eG4 (by decide)
      have h87 := h87.keep h80 eG4 (by decide)
      have h88 := h88.keep h80 eG4 (by decide)
      have h93 := h93.keep h80 eG4 (by decide)
      have h81 := h81.keep h80 eG4 (by decide)
      have h82 := h82.keep h80 eG4 (by decide)
      have h91 := h91.keep h80 eG4 (by decide)
      have h92 := h92.keep h80 eG4 (by decide)
      have h110 := h110.keep h80 eG4 (by decide)
      have h111 := h111.keep h80 eG4 (by decide)
      have hst := (fx.rf (o := o) (S := [280]) (G := G)).wr h80 eG4 (List.mem_singleton.mpr rfl)
      have ptrI_0 := trI.fr hst ptrI_0 (by decide) (by decide) (by decide) (by decide) (by decide) (by decide) (by decide) (by decide) (by decide) (by decide) (by decide) (by decide) (by decide) (by decide) (by decide) (by decide) (by decide) (by decide)
      have hlen := (z_len eG4).trans hlen
      have hsl := (z_sl h80 eG4 rfl).trans hsl
      have hfr := hfr.wr h80 eG4 (by decide)
      have h80 := h80.kept eG4
      change ab_W _ _ _ (List.set G 80 (ab_ob 12 (mof m_thrown m_taped m_length m_out m_wide m_gathered m_sets m_ranges m_nodes m_at m_flags m_fault m_place (m_numbered + 1) m_depth m_value m_isNot m_least0 m_most0 m_slot m_work m_got m_rowMany m_charAt m_charWide m_trail m_isMatch m_matchGroups m_allFrom m_allBefore m_founds m_pieces m_writtenMany m_templateWide m_tooMuch))) 53 [some (vR 80), some (vz wh), some (vz fr), some (vz n), none] [] _
      rw [← eG4]
      refine ab_aload_n d_MO_openNumbered_53 rfl ?_
      refine ab_getf (fs := mof m_thrown m_taped m_length m_out m_wide m_gathered m_sets m_ranges m_nodes m_at m_flags m_fault m_place (m_numbered + 1) m_depth m_value m_isNot m_least0 m_most0 m_slot m_work m_got m_rowMany m_charAt m_charWide m_trail m_isMatch m_matchGroups m_allFrom m_allBefore m_founds m_pieces m_writtenMany m_templateWide m_tooMuch) f_MO_106 d_MO_openNumbered_54 h80.2.2 rfl ?_
      refine ab_aload_n d_MO_openNumbered_57 rfl ?_
      refine ab_getf (fs := mof m_thrown m_taped m_length m_out m_wide m_gathered m_sets m_ranges m_nodes m_at m_flags m_fault m_place (m_numbered + 1) m_depth m_value m_isNot m_least0 m_most0 m_slot m_work m_got m_rowMany m_charAt m_charWide m_trail m_isMatch m_matchGroups m_allFrom m_allBefore m_founds m_pieces m_writtenMany m_templateWide m_tooMuch) f_MO_395 d_MO_openNumbered_58 h80.2.2 rfl ?_
      refine ab_iload_n d_MO_openNumbered_61 rfl ?_
      refine zz_iast d_MO_openNumbered_62 h111 (by omega) (h111.2.1 (by decide)) ?_
      obtain ⟨G5, eG5⟩ : ∃ z : ab_G, z = List.set G4 111 (za 10 (zu NM (m_numbered + 1) n)) := ⟨_, rfl⟩
      have h80 := h80.keep h111 eG5 (by decide)
      have h84 := h84.keep h111 eG5 (by decide)
      have h87 := h87.keep h111 eG5 (by decide)
      have h88 := h88.keep h111 eG5 (by decide)
      have h93 := h93.keep h111 eG5 (by decide)
      have h81 := h81.keep h111 eG5 (by decide)
      have h82 := h82.keep h111 eG5 (by decide)
      have h91 := h91.keep h111 eG5 (by decide)
      have h92 := h92.keep h111 eG5 (by decide)
      have h110 := h110.keep h111 eG5 (by decide)
      have hst := (fx.rf (o := o) (S := [311]) (G := G4)).wr h111 eG5 (List.mem_singleton.mpr rfl)
      have ptrI_0 := trI.fr hst ptrI_0 (by decide) (by decide) (by decide) (by decide) (by decide) (by decide) (by decide) (by decide) (by decide) (by decide) (by decide) (by decide) (by decide) (by decide) (by decide) (by decide) (by decide) (by decide)
      have hlen := (z_len eG5).trans hlen
      have hsl := (z_sl h111 eG5 rfl).trans hsl
      have hfr := hfr.wr h111 eG5 (by decide)
      have h111 := h111.kept eG5
      change ab_W _ _ _ (List.set G4 111 (za 10 (zu NM (m_numbered + 1) n))) 63 [some (vR 80), some (vz wh), some (vz fr), some (vz n), none] [] _
      rw [← eG5]
      refine zz_iconst d_MO_openNumbered_63 ?_
      refine ab_istore d_MO_openNumbered_64 (Nat.le_of_ble_eq_true rfl) (Nat.le_of_ble_eq_true rfl) rfl ?_
      change ab_W _ _ _ G5 66 [some (vR 80), some (vz wh), some (vz fr), some (vz n), some (vz 0)] [] _
      refine y_MO_openNumbered_66 (m_thrown := m_thrown) (m_taped := m_taped) (m_length := m_length) (m_out := m_out) (m_wide := m_wide) (m_gathered := m_gathered) (m_sets := m_sets) (m_ranges := m_ranges) (m_nodes := m_nodes) (m_at := m_at) (m_flags := m_flags) (m_fault := m_fault) (m_place := m_place) (m_numbered := (m_numbered + 1)) (m_depth := m_depth) (m_value := m_value) (m_isNot := m_isNot) (m_least0 := m_least0) (m_most0 := m_most0) (m_slot := m_slot) (m_work := m_work) (m_got := m_got) (m_rowMany := m_rowMany) (m_charAt := m_charAt) (m_charWide := m_charWide) (m_trail := m_trail) (m_isMatch := m_isMatch) (m_matchGroups := m_matchGroups) (m_allFrom := m_allFrom) (m_allBefore := m_allBefore) (m_founds := m_founds) (m_pieces := m_pieces) (m_writtenMany := m_writtenMany) (m_templateWide := m_templateWide) (m_tooMuch := m_tooMuch) (A_tape := A_tape) (wh := wh) (fr := fr) (n := n) (G0 := G5) (i_ := 0) (NS := NS) (by omega) (by omega) jtp (by omega) (by omega) (by omega) (Int.toNat (n - 0) + 1) h80 h84 h110 (by omega) jns fx.rf rfl rfl (by omega) (fun G6 NS27 hN110 hq8 hfk hlk hsk => ?_)
      · have h80 := hfk.get h80 (by decide)
        have h84 := hfk.get h84 (by decide)
        have h87 := hfk.get h87 (by decide)
        have h88 := hfk.get h88 (by decide)
        have h93 := hfk.get h93 (by decide)
        have h81 := hfk.get h81 (by decide)
        have h82 := hfk.get h82 (by decide)
        have h91 := hfk.get h91 (by decide)
        have h92 := hfk.get h92 (by decide)
        have h111 := hfk.get h111 (by decide)
        have ptrI_0 := trI.fr hfk ptrI_0 (by decide) (by decide) (by decide) (by decide) (by decide) (by decide) (by decide) (by decide) (by decide) (by decide) (by decide) (by decide) (by decide) (by decide) (by decide) (by decide) (by decide) (by decide)
        have hfr := hfr.tr hfk (by decide)
        have hlen := hlk.trans hlen
        have hsl := hsk.trans hsl
        have h110 := hN110
        change ab_W _ _ _ G6 102 [some (vR 80), some (vz wh), some (vz fr), some (vz n), none] [] _
        refine ab_aload_n d_MO_openNumbered_102 rfl ?_
        refine ab_dup d_MO_openNumbered_103 rfl ?_
        refine ab_getf (fs := mof m_thrown m_taped m_length m_out m_wide m_gathered m_sets m_ranges m_nodes m_at m_flags m_fault m_place (m_numbered + 1) m_depth m_value m_isNot m_least0 m_most0 m_slot m_work m_got m_rowMany m_charAt m_charWide m_trail m_isMatch m_matchGroups m_allFrom m_allBefore m_founds m_pieces m_writtenMany m_templateWide m_tooMuch) f_MO_282 d_MO_openNumbered_104 h80.2.2 rfl ?_
        refine zz_iconst d_MO_openNumbered_107 ?_
        refine zz_iadd d_MO_openNumbered_108 ?_
        refine ab_putf (fs := mof m_thrown m_taped m_length m_out m_wide m_gathered m_sets m_ranges m_nodes m_at m_flags m_fault m_place (m_numbered + 1) m_depth m_value m_isNot m_least0 m_most0 m_slot m_work m_got m_rowMany m_charAt m_charWide m_trail m_isMatch m_matchGroups m_allFrom m_allBefore m_founds m_pieces m_writtenMany m_templateWide m_tooMuch) f_MO_282 (Or.inl rfl) d_MO_openNumbered_109 h80.2.2 (Nat.le_of_ble_eq_true rfl) (fun _ => ⟨rfl, rfl⟩) (h80.2.1 (by decide)) ?_
        obtain ⟨G9, eG9⟩ : ∃ z : ab_G, z = List.set G6 80 (ab_ob 12 (mof m_thrown m_taped m_length m_out m_wide m_gathered m_sets m_ranges m_nodes m_at m_flags m_fault m_place (m_numbered + 1) (m_depth + 1) m_value m_isNot m_least0 m_most0 m_slot m_work m_got m_rowMany m_charAt m_charWide m_trail m_isMatch m_matchGroups m_allFrom m_allBefore m_founds m_pieces m_writtenMany m_templateWide m_tooMuch)) := ⟨_, rfl⟩
        have h84 := h84.keep h80 eG9 (by decide)
        have h87 := h87.keep h80 eG9 (by decide)
        have h88 := h88.keep h80 eG9 (by decide)
        have h93 := h93.keep h80 eG9 (by decide)
        have h81 := h81.keep h80 eG9 (by decide)
        have h82 := h82.keep h80 eG9 (by decide)
        have h91 := h91.keep h80 eG9 (by decide)
        have h92 := h92.keep h80 eG9 (by decide)
        have h110 := h110.keep h80 eG9 (by decide)
        have h111 := h111.keep h80 eG9 (by decide)
        have hst := (fx.rf (o := o) (S := [280]) (G := G6)).wr h80 eG9 (List.mem_singleton.mpr rfl)
        have ptrI_0 := trI.fr hst ptrI_0 (by decide) (by decide) (by decide) (by decide) (by decide) (by decide) (by decide) (by decide) (by decide) (by decide) (by decide) (by decide) (by decide) (by decide) (by decide) (by decide) (by decide) (by decide)
        have hlen := (z_len eG9).trans hlen
        have hsl := (z_sl h80 eG9 rfl).trans hsl
        have hfr := hfr.wr h80 eG9 (by decide)
        have h80 := h80.kept eG9
        change ab_W _ _ _ (List.set G6 80 (ab_ob 12 (mof m_thrown m_taped m_length m_out m_wide m_gathered m_sets m_ranges m_nodes m_at m_flags m_fault m_place (m_numbered + 1) (m_depth + 1) m_value m_isNot m_least0 m_most0 m_slot m_work m_got m_rowMany m_charAt m_charWide m_trail m_isMatch m_matchGroups m_allFrom m_allBefore m_founds m_pieces m_writtenMany m_templateWide m_tooMuch))) 112 [some (vR 80), some (vz wh), some (vz fr), some (vz n), none] [] _
        rw [← eG9]
        refine ab_aload_n d_MO_openNumbered_112 rfl ?_
        refine ab_iload_n d_MO_openNumbered_113 rfl ?_
        refine ab_aload_n d_MO_openNumbered_114 rfl ?_
        refine ab_getf (fs := mof m_thrown m_taped m_length m_out m_wide m_gathered m_sets m_ranges m_nodes m_at m_flags m_fault m_place (m_numbered + 1) (m_depth + 1) m_value m_isNot m_least0 m_most0 m_slot m_work m_got m_rowMany m_charAt m_charWide m_trail m_isMatch m_matchGroups m_allFrom m_allBefore m_founds m_pieces m_writtenMany m_templateWide m_tooMuch) f_MO_276 d_MO_openNumbered_115 h80.2.2 rfl ?_
        refine ab_aload_n d_MO_openNumbered_118 rfl ?_
        refine ab_getf (fs := mof m_thrown m_taped m_length m_out m_wide m_gathered m_sets m_ranges m_nodes m_at m_flags m_fault m_place (m_numbered + 1) (m_depth + 1) m_value m_isNot m_least0 m_most0 m_slot m_work m_got m_rowMany m_charAt m_charWide m_trail m_isMatch m_matchGroups m_allFrom m_allBefore m_founds m_pieces m_writtenMany m_templateWide m_tooMuch) f_MO_395 d_MO_openNumbered_119 h80.2.2 rfl ?_
        refine ab_callV (d' := d - 1) (as := [vz wh, vz m_flags, vz (m_numbered + 1)]) (st := []) (r := _) (z_MO_openGroup (o := o) (m_thrown := m_thrown) (m_taped := m_taped) (m_length := m_length) (m_out := m_out) (m_wide := m_wide) (m_gathered := m_gathered) (m_sets := m_sets) (m_ranges := m_ranges) (m_nodes := m_nodes) (m_at := m_at) (m_flags := m_flags) (m_fault := m_fault) (m_place := m_place) (m_numbered := (m_numbered + 1)) (m_depth := (m_depth + 1)) (m_value := m_value) (m_isNot := m_isNot) (m_least0 := m_least0) (m_most0 := m_most0) (m_slot := m_slot) (m_work := m_work) (m_got := m_got) (m_rowMany := m_rowMany) (m_charAt := m_charAt) (m_charWide := m_charWide) (m_trail := m_trail) (m_isMatch := m_isMatch) (m_matchGroups := m_matchGroups) (m_allFrom := m_allFrom) (m_allBefore := m_allBefore) (m_founds := m_founds) (m_pieces := m_pieces) (m_writtenMany := m_writtenMany) (m_templateWide := m_templateWide) (m_tooMuch := m_tooMuch) (x := wh) (y := m_flags) (w := (m_numbered + 1)) (dn := (-1)) (dh := 0) (re_ := 0) h80 ptrI_0 (by omega) (by omega) (by omega) (by omega)) (fun oc G2 h => by rcases h with ⟨h, _⟩ <;> exact ⟨_, h⟩) (by omega) m_MO_openGroup ml_MO_392 im_MO_openGroup se_MO_openGroup c_MO h80.2.2 (Nat.le_of_ble_eq_true rfl) d_MO_openNumbered_122 rfl ?_
        intro v G10 hq
        rcases hq with ⟨hv, hfk, hlk, hsk, pNtrI_0⟩
        cases hv
        have h80 := hfk.get h80 (by decide)
        have h84 := hfk.get h84 (by decide)
        have h87 := hfk.get h87 (by decide)
        have h88 := hfk.get h88 (by decide)
        have h93 := hfk.get h93 (by decide)
        have h81 := hfk.get h81 (by decide)
        have h82 := hfk.get h82 (by decide)
        have h91 := hfk.get h91 (by decide)
        have h92 := hfk.get h92 (by decide)
        have h110 := hfk.get h110 (by decide)
        have h111 := hfk.get h111 (by decide)
        have ptrI_0 := pNtrI_0
        have hfr := hfr.tr hfk (by decide)
        have hlen := hlk.trans hlen
        have hsl := hsk.trans hsl
        change ab_W _ _ _ G10 125 [some (vR 80), some (vz wh), some (vz fr), some (vz n), none] [] _
        refine ab_vret rfl d_MO_openNumbered_125 ?_
        rw [hQ]; exact (Or.inl ⟨_, _, _, _, _, _, _, _, _, _, _, _, _, _, _, _, _, _, _, _, _, _, rfl, hfr, hlen, hsl, h80, h87, h88, h93, h91, h92, h110, h111, ptrI_0, (by omega), (by first | exact jmk | exact rgs_w jmk (by omega)), (by first | exact jrl | exact rgs_w jrl (by omega)), (by first | exact jrh | exact rgs_w jrh (by omega)), (by first | exact hq8 | exact rgs_w hq8 (by omega)), (by first | exact (rgs_zu jnm (by omega)) | exact rgs_w (rgs_zu jnm (by omega)) (by omega))⟩)
    · refine ab_aload_n d_MO_openNumbered_28 rfl ?_
      refine zz_bipush d_MO_openNumbered_29 (by decide) ?_
      refine ab_iload_n d_MO_openNumbered_31 rfl ?_
      refine ab_callV (d' := d - 1) (as := [vz 13, vz wh]) (st := []) (r := _) (z_MO_wrong (o := o) (m_thrown := m_thrown) (m_taped := m_taped) (m_length := m_length) (m_out := m_out) (m_wide := m_wide) (m_gathered := m_gathered) (m_sets := m_sets) (m_ranges := m_ranges) (m_nodes := m_nodes) (m_at := m_at) (m_flags := m_flags) (m_fault := m_fault) (m_place := m_place) (m_numbered := m_numbered) (m_depth := m_depth) (m_value := m_value) (m_isNot := m_isNot) (m_least0 := m_least0) (m_most0 := m_most0) (m_slot := m_slot) (m_work := m_work) (m_got := m_got) (m_rowMany := m_rowMany) (m_charAt := m_charAt) (m_charWide := m_charWide) (m_trail := m_trail) (m_isMatch := m_isMatch) (m_matchGroups := m_matchGroups) (m_allFrom := m_allFrom) (m_allBefore := m_allBefore) (m_founds := m_founds) (m_pieces := m_pieces) (m_writtenMany := m_writtenMany) (m_templateWide := m_templateWide) (m_tooMuch := m_tooMuch) (x := 13) (y := wh) h80 (by omega) (by omega)) (fun oc G2 h => by rcases h with ⟨_, _, h, _⟩ <;> exact ⟨_, h⟩) (by omega) m_MO_wrong ml_MO_304 im_MO_wrong se_MO_wrong c_MO h80.2.2 (Nat.le_of_ble_eq_true rfl) d_MO_openNumbered_32 rfl ?_
      intro v G11 hq
      rcases hq with ⟨f212, p213, hv, hfk, hlk, hsk, hN80, hq14⟩
      cases hv
      have h84 := hfk.get h84 (by decide)
      have h87 := hfk.get h87 (by decide)
      have h88 := hfk.get h88 (by decide)
      have h93 := hfk.get h93 (by decide)
      have h81 := hfk.get h81 (by decide)
      have h82 := hfk.get h82 (by decide)
      have h91 := hfk.get h91 (by decide)
      have h92 := hfk.get h92 (by decide)
      have h110 := hfk.get h110 (by decide)
      have h111 := hfk.get h111 (by decide)
      have ptrI_0 := trI.fr hfk ptrI_0 (by decide) (by decide) (by decide) (by decide) (by decide) (by decide) (by decide) (by decide) (by decide) (by decide) (by decide) (by decide) (by decide) (by decide) (by decide) (by decide) (by decide) (by decide)
      have hfr := hfr.tr hfk (by decide)
      have hlen := hlk.trans hlen
      have hsl := hsk.trans hsl
      have h80 := hN80
      change ab_W _ _ _ G11 35 [some (vR 80), some (vz wh), some (vz fr), some (vz n), none] [] _
      refine ab_aload_n d_MO_openNumbered_35 rfl ?_
      refine ab_getf (fs := mof m_thrown m_taped m_length m_out m_wide m_gathered m_sets m_ranges m_nodes m_at m_flags f212 p213 m_numbered m_depth m_value m_isNot m_least0 m_most0 m_slot m_work m_got m_rowMany m_charAt m_charWide m_trail m_isMatch m_matchGroups m_allFrom m_allBefore m_founds m_pieces m_writtenMany m_templateWide m_tooMuch) f_MO_273 d_MO_openNumbered_36 h80.2.2 rfl ?_
      refine zz_if_le (tgt := 43) d_MO_openNumbered_39 (by decide) (by omega) (fun c15 => absurd c15 (by omega)) (fun c15 => ?_)
      refine ab_vret rfl d_MO_openNumbered_42 ?_
      rw [hQ]; exact (Or.inr ⟨_, _, _, _, _, _, _, _, _, _, _, _, _, _, _, _, _, _, _, _, _, _, rfl, hfr, hlen, hsl, h80, h87, h88, h93, h91, h92, h110, h111, ptrI_0, (by omega), (by first | exact jmk | exact rgs_w jmk (by omega)), (by first | exact jrl | exact rgs_w jrl (by omega)), (by first | exact jrh | exact rgs_w jrh (by omega)), (by first | exact jns | exact rgs_w jns (by omega)), (by first | exact jnm | exact rgs_w jnm (by omega))⟩)
  · refine ab_aload_n d_MO_openNumbered_9 rfl ?_
    refine zz_bipush d_MO_openNumbered_10 (by decide) ?_
    refine ab_iload_n d_MO_openNumbered_12 rfl ?_
    refine ab_callV (d' := d - 1) (as := [vz 12, vz wh]) (st := []) (r := _) (z_MO_wrong (o := o) (m_thrown := m_thrown) (m_taped := m_taped) (m_length := m_length) (m_out := m_out) (m_wide := m_wide) (m_gathered := m_gathered) (m_sets := m_sets) (m_ranges := m_ranges) (m_nodes := m_nodes) (m_at := m_at) (m_flags := m_flags) (m_fault := m_fault) (m_place := m_place) (m_numbered := m_numbered) (m_depth := m_depth) (m_value := m_value) (m_isNot := m_isNot) (m_least0 := m_least0) (m_most0 := m_most0) (m_slot := m_slot) (m_work := m_work) (m_got := m_got) (m_rowMany := m_rowMany) (m_charAt := m_charAt) (m_charWide := m_charWide) (m_trail := m_trail) (m_isMatch := m_isMatch) (m_matchGroups := m_matchGroups) (m_allFrom := m_allFrom) (m_allBefore := m_allBefore) (m_founds := m_founds) (m_pieces := m_pieces) (m_writtenMany := m_writtenMany) (m_templateWide := m_templateWide) (m_tooMuch := m_tooMuch) (x := 12) (y := wh) h80 (by omega) (by omega)) (fun oc G2 h => by rcases h with ⟨_, _, h, _⟩ <;> exact ⟨_, h⟩) (by omega) m_MO_wrong ml_MO_304 im_MO_wrong se_MO_wrong c_MO h80.2.2 (Nat.le_of_ble_eq_true rfl) d_MO_openNumbered_13 rfl ?_
    intro v G16 hq
    rcases hq with ⟨f217, p218, hv, hfk, hlk, hsk, hN80, hq19⟩
    cases hv
    have h84 := hfk.get h84 (by decide)
    have h87 := hfk.get h87 (by decide)
    have h88 := hfk.get h88 (by decide)
    have h93 := hfk.get h93 (by decide)
    have h81 := hfk.get h81 (by decide)
    have h82 := hfk.get h82 (by decide)
    have h91 := hfk.get h91 (by decide)
    have h92 := hfk.get h92 (by decide)
    have h110 := hfk.get h110 (by decide)
    have h111 := hfk.get h111 (by decide)
    have ptrI_0 := trI.fr hfk ptrI_0 (by decide) (by decide) (by decide) (by decide) (by decide) (by decide) (by decide) (by decide) (by decide) (by decide) (by decide) (by decide) (by decide) (by decide) (by decide) (by decide) (by decide) (by decide)
    have hfr := hfr.tr hfk (by decide)
    have hlen := hlk.trans hlen
    have hsl := hsk.trans hsl
    have h80 := hN80
    change ab_W _ _ _ G16 16 [some (vR 80), some (vz wh), some (vz fr), some (vz n), none] [] _
    refine ab_goto (tgt := 35) d_MO_openNumbered_16 (by decide) ?_
    refine ab_aload_n d_MO_openNumbered_35 rfl ?_
    refine ab_getf (fs := mof m_thrown m_taped m_length m_out m_wide m_gathered m_sets m_ranges m_nodes m_at m_flags f217 p218 m_numbered m_depth m_value m_isNot m_least0 m_most0 m_slot m_work m_got m_rowMany m_charAt m_charWide m_trail m_isMatch m_matchGroups m_allFrom m_allBefore m_founds m_pieces m_writtenMany m_templateWide m_tooMuch) f_MO_273 d_MO_openNumbered_36 h80.2.2 rfl ?_
    refine zz_if_le (tgt := 43) d_MO_openNumbered_39 (by decide) (by omega) (fun c20 => absurd c20 (by omega)) (fun c20 => ?_)
    refine ab_vret rfl d_MO_openNumbered_42 ?_
    rw [hQ]; exact (Or.inr ⟨_, _, _, _, _, _, _, _, _, _, _, _, _, _, _, _, _, _, _, _, _, _, rfl, hfr, hlen, hsl, h80, h87, h88, h93, h91, h92, h110, h111, ptrI_0, (by omega), (by first | exact jmk | exact rgs_w jmk (by omega)), (by first | exact jrl | exact rgs_w jrl (by omega)), (by first | exact jrh | exact rgs_w jrh (by omega)), (by first | exact jns | exact rgs_w jns (by omega)), (by first | exact jnm | exact rgs_w jnm (by omega))⟩)
set_option maxRecDepth 100000 in
set_option maxHeartbeats 4000000 in
theorem y_MO_readName_9 {X : ab_X} {d : Nat} {Q : Outcome → ab_G → Prop} {o : Nat → Nat} {G0 : ab_G} {m_thrown : Int} {m_taped : Int} {m_length : Int} {m_out : Int} {m_wide : Int} {m_gathered : Int} {m_sets : Int} {m_ranges : Int} {m_nodes : Int} {m_at : Int} {m_flags : Int} {m_fault : Int} {m_place : Int} {m_numbered : Int} {m_depth : Int} {m_value : Int} {m_isNot : Int} {m_least0 : Int} {m_most0 : Int} {m_slot : Int} {m_work : Int} {m_got : Int} {m_rowMany : Int} {m_charAt : Int} {m_charWide : Int} {m_trail : Int} {m_isMatch : Int} {m_matchGroups : Int} {m_allFrom : Int} {m_allBefore : Int} {m_founds : Int} {m_pieces : Int} {m_writtenMany : Int} {m_templateWide : Int} {m_tooMuch : Int} {A_tape : Int → Int} {wh : Int} {fr : Int} (cta : 0 ≤ m_taped ∧ m_taped ≤ 2000) (jtp : rgs A_tape 2000 0 255) (cat : 0 ≤ m_at ∧ m_at < m_taped) (hd : 1 ≤ d) : ∀ (mz : Nat) {G : ab_G} {n : Int}, (cc o G 80 280 (ab_ob 12 (mof m_thrown m_taped m_length m_out m_wide m_gathered m_sets m_ranges m_nodes m_at m_flags m_fault m_place m_numbered m_depth m_value m_isNot m_least0 m_most0 m_slot m_work m_got m_rowMany m_charAt m_charWide m_trail m_isMatch m_matchGroups m_allFrom m_allBefore m_founds m_pieces m_writtenMany m_templateWide m_tooMuch))) → (cc o G 84 284 (za 2000 A_tape)) → (0 ≤ n ∧ n ≤ 13) → (fx o o [] G0 G) → (G.length = G0.length) → (ab_slots G = ab_slots G0) → (Int.toNat (13 - n) < mz) → (∀ (G2 : ab_G) (n2 : Int), (0 ≤ n2 ∧ n2 ≤ 13) → (fx o o [] G0 G2) → (G2.length = G0.length) → (ab_slots G2 = ab_slots G0) → ab_W X (ab_pl y_MO_readName b_MO_readName 7 none) d G2 44 [some (vR 80), some (vz wh), some (vz fr), some (vz n2), none, none, none] [] Q) → ab_W X (ab_pl y_MO_readName b_MO_readName 7 none) d G 9 [some (vR 80), some (vz wh), some (vz fr), some (vz n), none, none, none] [] Q := by
  intro mz
  induction mz with
  | zero => intro G n h80 h84 ci hfr hlen hsl hm hk0; exact absurd hm (Nat.not_lt_zero _)
  | succ mz ih =>
    intro G n h80 h84 ci hfr hlen hsl hm hk0
    refine ab_iload_n d_MO_readName_9 rfl ?_
    refine zz_bipush d_MO_readName_10 (by decide) ?_
    refine zz_icmp_ge (tgt := 44) d_MO_readName_12 (by decide) (by omega) (by decide) (fun c1 => ?_) (fun c1 => ?_)
    · exact hk0 _ _ (by omega) hfr hlen hsl
    · refine ab_aload_n d_MO_readName_15 rfl ?_
      refine zz_iconst d_MO_readName_16 ?_
      refine ab_iload_n d_MO_readName_17 rfl ?_
      refine zz_iadd d_MO_readName_18 ?_
      refine ab_callV (d' := d - 1) (as := [vz (4 + n)]) (st := []) (r := _) (z_MO_here (o := o) (m_thrown := m_thrown) (m_taped := m_taped) (m_length := m_length) (m_out := m_out) (m_wide := m_wide) (m_gathered := m_gathered) (m_sets := m_sets) (m_ranges := m_ranges) (m_nodes := m_nodes) (m_at := m_at) (m_flags := m_flags) (m_fault := m_fault) (m_place := m_place) (m_numbered := m_numbered) (m_depth := m_depth) (m_value := m_value) (m_isNot := m_isNot) (m_least0 := m_least0) (m_most0 := m_most0) (m_slot := m_slot) (m_work := m_work) (m_got := m_got) (m_rowMany := m_rowMany) (m_charAt := m_charAt) (m_charWide := m_charWide) (m_trail := m_trail) (m_isMatch := m_isMatch) (m_matchGroups := m_matchGroups) (m_allFrom := m_allFrom) (m_allBefore := m_allBefore) (m_founds := m_founds) (m_pieces := m_pieces) (m_writtenMany := m_writtenMany) (m_templateWide := m_templateWide) (m_tooMuch := m_tooMuch) (A_tape := A_tape) (k := (4 + n)) h80 h84 (by omega) (by omega) jtp (by omega)) (fun oc G2 h => by rcases h with ⟨h, _⟩ | ⟨h, _⟩ <;> exact ⟨_, h⟩) (by omega) m_MO_here ml_MO_297 im_MO_here se_MO_here c_MO h80.2.2 (Nat.le_of_ble_eq_true rfl) d_MO_readName_19 rfl ?_
      intro v G2 hq
      rcases hq with ⟨hv, hGe, hq3⟩ | ⟨hv, hGe, hq4⟩
      · cases hv
        rw [hGe]
        change ab_W _ _ _ G 22 [some (vR 80), some (vz wh), some (vz fr), some (vz n), none, none, none] [vz (A_tape (m_at + (4 + n)))] _
        refine zz_if_lt (tgt := 44) d_MO_readName_22 (by decide) (by omega) (fun c5 => absurd c5 (by omega)) (fun c5 => ?_)
        refine ab_aload_n d_MO_readName_25 rfl ?_
        refine zz_iconst d_MO_readName_26 ?_
        refine ab_iload_n d_MO_readName_27 rfl ?_
        refine zz_iadd d_MO_readName_28 ?_
        refine ab_callV (d' := d - 1) (as := [vz (4 + n)]) (st := []) (r := _) (z_MO_here (o := o) (m_thrown := m_thrown) (m_taped := m_taped) (m_length := m_length) (m_out := m_out) (m_wide := m_wide) (m_gathered := m_gathered) (m_sets := m_sets) (m_ranges := m_ranges) (m_nodes := m_nodes) (m_at := m_at) (m_flags := m_flags) (m_fault := m_fault) (m_place := m_place) (m_numbered := m_numbered) (m_depth := m_depth) (m_value := m_value) (m_isNot := m_isNot) (m_least0 := m_least0) (m_most0 := m_most0) (m_slot := m_slot) (m_work := m_work) (m_got := m_got) (m_rowMany := m_rowMany) (m_charAt := m_charAt) (m_charWide := m_charWide) (m_trail := m_trail) (m_isMatch := m_isMatch) (m_matchGroups := m_matchGroups) (m_allFrom := m_allFrom) (m_allBefore := m_allBefore) (m_founds := m_founds) (m_pieces := m_pieces) (m_writtenMany := m_writtenMany) (m_templateWide := m_templateWide) (m_tooMuch := m_tooMuch) (A_tape := A_tape) (k := (4 + n)) h80 h84 (by omega) (by omega) jtp (by omega)) (fun oc G2 h => by rcases h with ⟨h, _⟩ | ⟨h, _⟩ <;> exact ⟨_, h⟩) (by omega) m_MO_here ml_MO_297 im_MO_here se_MO_here c_MO h80.2.2 (Nat.le_of_ble_eq_true rfl) d_MO_readName_29 rfl ?_
        intro v G6 hq
        rcases hq with ⟨hv, hGe, hq7⟩ | ⟨hv, hGe, hq8⟩
        · cases hv
          rw [hGe]
          change ab_W _ _ _ G 32 [some (vR 80), some (vz wh), some (vz fr), some (vz n), none, none, none] [vz (A_tape (m_at + (4 + n)))] _
          refine ab_callS (d' := d - 1) (as := [vz (A_tape (m_at + (4 + n)))]) (st := []) (z_MO_isWord (o := o) (x := (A_tape (m_at + (4 + n)))) (by omega)) (fun oc G2 h => by rcases h with ⟨h, _⟩ | ⟨h, _⟩ <;> exact ⟨_, h⟩) (by omega) m_MO_isWord ml_MO_326 st_MO_isWord (Nat.le_of_ble_eq_true rfl) d_MO_readName_32 rfl ?_
          intro v G9 hq
          rcases hq with ⟨hv, hGe, hq10⟩ | ⟨hv, hGe, hq11⟩
          · cases hv
            rw [hGe]
            change ab_W _ _ _ G 35 [some (vR 80), some (vz wh), some (vz fr), some (vz n), none, none, none] [vz 1] _
            refine zz_if_eq (tgt := 44) d_MO_readName_35 (by decide) (by decide) (fun c12 => absurd c12 (by decide)) (fun c12 => ?_)
            refine zz_iinc d_MO_readName_38 rfl (Nat.le_of_ble_eq_true rfl) (Nat.le_of_ble_eq_true rfl) rfl ?_
            change ab_W _ _ _ G 41 [some (vR 80), some (vz wh), some (vz fr), some (vz (n + 1)), none, none, none] [] _
            refine ab_goto (tgt := 9) d_MO_readName_41 (by decide) ?_
            exact ih (n := (n + 1)) h80 h84 (by omega) hfr hlen hsl (by omega) hk0
          · cases hv
            rw [hGe]
            change ab_W _ _ _ G 35 [some (vR 80), some (vz wh), some (vz fr), some (vz n), none, none, none] [vz 0] _
            refine zz_if_eq (tgt := 44) d_MO_readName_35 (by decide) (by decide) (fun c13 => ?_) (fun c13 => absurd c13 (by decide))
            exact hk0 _ _ (by omega) hfr hlen hsl
        · cases hv
          rw [hGe]
          change ab_W _ _ _ G 32 [some (vR 80), some (vz wh), some (vz fr), some (vz n), none, none, none] [vz (-1)] _
          exfalso; omega
      · cases hv
        rw [hGe]
        change ab_W _ _ _ G 22 [some (vR 80), some (vz wh), some (vz fr), some (vz n), none, none, none] [vz (-1)] _
        refine zz_if_lt (tgt := 44) d_MO_readName_22 (by decide) (by decide) (fun c14 => ?_) (fun c14 => absurd c14 (by decide))
        exact hk0 _ _ (by omega) hfr hlen hsl
set_option maxRecDepth 100000 in
set_option maxHeartbeats 4000000 in
theorem y_MO_readName_125 {X : ab_X} {d : Nat} {Q : Outcome → ab_G → Prop} {o : Nat → Nat} {G0 : ab_G} {m_thrown : Int} {m_taped : Int} {m_length : Int} {m_out : Int} {m_wide : Int} {m_gathered : Int} {m_sets : Int} {m_ranges : Int} {m_nodes : Int} {m_at : Int} {m_flags : Int} {m_fault : Int} {m_place : Int} {m_numbered : Int} {m_depth : Int} {m_value : Int} {m_isNot : Int} {m_least0 : Int} {m_most0 : Int} {m_slot : Int} {m_work : Int} {m_got : Int} {m_rowMany : Int} {m_charAt : Int} {m_charWide : Int} {m_trail : Int} {m_isMatch : Int} {m_matchGroups : Int} {m_allFrom : Int} {m_allBefore : Int} {m_founds : Int} {m_pieces : Int} {m_writtenMany : Int} {m_templateWide : Int} {m_tooMuch : Int} {A_tape : Int → Int} {NS : Int → Int} {wh : Int} {fr : Int} {n : Int} {g : Int} (cta : 0 ≤ m_taped ∧ m_taped ≤ 2000) (jtp : rgs A_tape 2000 0 255) (jns : rgs NS 120 0 255) (cnn : 1 ≤ n ∧ n ≤ 12 ∧ 0 ≤ fr ∧ fr + n ≤ m_taped) (cg : 1 ≤ g ∧ g ≤ 9) (hd : 1 ≤ d) : ∀ (mz : Nat) {G : ab_G} {sm : Int} {k : Int}, (cc o G 80 280 (ab_ob 12 (mof m_thrown m_taped m_length m_out m_wide m_gathered m_sets m_ranges m_nodes m_at m_flags m_fault m_place m_numbered m_depth m_value m_isNot m_least0 m_most0 m_slot m_work m_got m_rowMany m_charAt m_charWide m_trail m_isMatch m_matchGroups m_allFrom m_allBefore m_founds m_pieces m_writtenMany m_templateWide m_tooMuch))) → (cc o G 84 284 (za 2000 A_tape)) → (cc o G 110 310 (za 120 NS)) → (0 ≤ sm ∧ sm ≤ 1 ∧ 0 ≤ k ∧ k ≤ n) → (fx o o [] G0 G) → (G.length = G0.length) → (ab_slots G = ab_slots G0) → (Int.toNat (n - k) < mz) → (∀ (G2 : ab_G) (s2 : Int), (0 ≤ s2 ∧ s2 ≤ 1) → (fx o o [] G0 G2) → (G2.length = G0.length) → (ab_slots G2 = ab_slots G0) → ab_W X (ab_pl y_MO_readName b_MO_readName 7 none) d G2 174 [some (vR 80), some (vz wh), some (vz fr), some (vz n), some (vz g), some (vz s2), none] [] Q) → ab_W X (ab_pl y_MO_readName b_MO_readName 7 none) d G 125 [some (vR 80), some (vz wh), some (vz fr), some (vz n), some (vz g), some (vz sm), some (vz k)] [] Q := by
  intro mz
  induction mz with
  | zero => intro G sm k h80 h84 h110 ci hfr hlen hsl hm hk0; exact absurd hm (Nat.not_lt_zero _)
  | succ mz ih =>
    intro G sm k h80 h84 h110 ci hfr hlen hsl hm hk0
    refine ab_iload d_MO_readName_125 rfl ?_
    refine ab_iload_n d_MO_readName_127 rfl ?_
    refine zz_icmp_ge (tgt := 174) d_MO_readName_128 (by decide) (by omega) (by omega) (fun c1 => ?_) (fun c1 => ?_)
    · refine ab_less (L' := [some (vR 80), some (vz wh), some (vz fr), some (vz n), some (vz g), some (vz sm), none]) (fun i v h => by rcases i with _ | _ | _ | _ | _ | _ | _ | i <;> first | exact h | (simp at h)) ?_
      exact hk0 _ _ (by omega) hfr hlen hsl
    · refine ab_iload d_MO_readName_131 rfl ?_
      refine zz_if_eq (tgt := 174) d_MO_readName_133 (by decide) (by omega) (fun c2 => ?_) (fun c2 => ?_)
      · refine ab_less (L' := [some (vR 80), some (vz wh), some (vz fr), some (vz n), some (vz g), some (vz sm), none]) (fun i v h => by rcases i with _ | _ | _ | _ | _ | _ | _ | i <;> first | exact h | (simp at h)) ?_
        exact hk0 _ _ (by omega) hfr hlen hsl
      · refine ab_aload_n d_MO_readName_136 rfl ?_
        refine ab_getf (fs := mof m_thrown m_taped m_length m_out m_wide m_gathered m_sets m_ranges m_nodes m_at m_flags m_fault m_place m_numbered m_depth m_value m_isNot m_least0 m_most0 m_slot m_work m_got m_rowMany m_charAt m_charWide m_trail m_isMatch m_matchGroups m_allFrom m_allBefore m_founds m_pieces m_writtenMany m_templateWide m_tooMuch) f_MO_103 d_MO_readName_137 h80.2.2 rfl ?_
        refine zz_bipush d_MO_readName_140 (by decide) ?_
        refine ab_iload d_MO_readName_142 rfl ?_
        refine zz_imul d_MO_readName_144 ?_
        refine ab_iload d_MO_readName_145 rfl ?_
        refine zz_iadd d_MO_readName_147 ?_
        refine zz_iald d_MO_readName_148 h110 (by omega) ?_
        have hq3 := jns ((12 * g) + k) (by omega) (by omega)
        refine ab_aload_n d_MO_readName_149 rfl ?_
        refine ab_getf (fs := mof m_thrown m_taped m_length m_out m_wide m_gathered m_sets m_ranges m_nodes m_at m_flags m_fault m_place m_numbered m_depth m_value m_isNot m_least0 m_most0 m_slot m_work m_got m_rowMany m_charAt m_charWide m_trail m_isMatch m_matchGroups m_allFrom m_allBefore m_founds m_pieces m_writtenMany m_templateWide m_tooMuch) f_MO_19 d_MO_readName_150 h80.2.2 rfl ?_
        refine ab_iload_n d_MO_readName_153 rfl ?_
        refine ab_iload d_MO_readName_154 rfl ?_
        refine zz_iadd d_MO_readName_156 ?_
        refine zz_iald d_MO_readName_157 h84 (by omega) ?_
        have hq4 := jtp (fr + k) (by omega) (by omega)
        refine zz_icmp_ne (tgt := 165) d_MO_readName_158 (by decide) (by omega) (by omega) (fun c5 => ?_) (fun c5 => ?_)
        · refine zz_iconst d_MO_readName_165 ?_
          refine ab_istore d_MO_readName_166 (Nat.le_of_ble_eq_true rfl) (Nat.le_of_ble_eq_true rfl) rfl ?_
          change ab_W _ _ _ G 168 [some (vR 80), some (vz wh), some (vz fr), some (vz n), some (vz g), some (vz 0), some (vz k)] [] _
          refine zz_iinc d_MO_readName_168 rfl (Nat.le_of_ble_eq_true rfl) (Nat.le_of_ble_eq_true rfl) rfl ?_
          change ab_W _ _ _ G 171 [some (vR 80), some (vz wh), some (vz fr), some (vz n), some (vz g), some (vz 0), some (vz (k + 1))] [] _
          refine ab_goto (tgt := 125) d_MO_readName_171 (by decide) ?_
          exact ih (sm := 0) (k := (k + 1)) h80 h84 h110 (by omega) hfr hlen hsl (by omega) hk0
        · refine zz_iconst d_MO_readName_161 ?_
          refine ab_goto (tgt := 166) d_MO_readName_162 (by decide) ?_
          refine ab_istore d_MO_readName_166 (Nat.le_of_ble_eq_true rfl) (Nat.le_of_ble_eq_true rfl) rfl ?_
          change ab_W _ _ _ G 168 [some (vR 80), some (vz wh), some (vz fr), some (vz n), some (vz g), some (vz 1), some (vz k)] [] _
          refine zz_iinc d_MO_readName_168 rfl (Nat.le_of_ble_eq_true rfl) (Nat.le_of_ble_eq_true rfl) rfl ?_
          change ab_W _ _ _ G 171 [some (vR 80), some (vz wh), some (vz fr), some (vz n), some (vz g), some (vz 1), some (vz (k + 1))] [] _
          refine ab_goto (tgt := 125) d_MO_readName_171 (by decide) ?_
          exact ih (sm := 1) (k := (k + 1)) h80 h84 h110 (by omega) hfr hlen hsl (by omega) hk0
set_option maxRecDepth 100000 in
set_option maxHeartbeats 4000000 in
theorem y_MO_readName_88 {X : ab_X} {d : Nat} {Q : Outcome → ab_G → Prop} {o : Nat → Nat} {G0 : ab_G} {m_thrown : Int} {m_taped : Int} {m_length : Int} {m_out : Int} {m_wide : Int} {m_gathered : Int} {m_sets : Int} {m_ranges : Int} {m_nodes : Int} {m_at : Int} {m_flags : Int} {m_numbered : Int} {m_depth : Int} {m_value : Int} {m_isNot : Int} {m_least0 : Int} {m_most0 : Int} {m_slot : Int} {m_work : Int} {m_got : Int} {m_rowMany : Int} {m_charAt : Int} {m_charWide : Int} {m_trail : Int} {m_isMatch : Int} {m_matchGroups : Int} {m_allFrom : Int} {m_allBefore : Int} {m_founds : Int} {m_pieces : Int} {m_writtenMany : Int} {m_templateWide : Int} {m_tooMuch : Int} {A_tape : Int → Int} {NS : Int → Int} {NM : Int → Int} {wh : Int} {fr : Int} {n : Int} (n18 : ab_n0 = 18) (cta : 0 ≤ m_taped ∧ m_taped ≤ 2000) (jtp : rgs A_tape 2000 0 255) (jns : rgs NS 120 0 255) (jnm : rgs NM 10 0 12) (cnn : 1 ≤ n ∧ n ≤ 12 ∧ 0 ≤ fr ∧ fr + n ≤ m_taped) (cnu : 0 ≤ m_numbered ∧ m_numbered ≤ 9) (hd : 1 ≤ d) : ∀ (mz : Nat) {G : ab_G} {g : Int} {m_fault : Int} {m_place : Int}, (cc o G 80 280 (ab_ob 12 (mof m_thrown m_taped m_length m_out m_wide m_gathered m_sets m_ranges m_nodes m_at m_flags m_fault m_place m_numbered m_depth m_value m_isNot m_least0 m_most0 m_slot m_work m_got m_rowMany m_charAt m_charWide m_trail m_isMatch m_matchGroups m_allFrom m_allBefore m_founds m_pieces m_writtenMany m_templateWide m_tooMuch))) → (cc o G 84 284 (za 2000 A_tape)) → (cc o G 110 310 (za 120 NS)) → (cc o G 111 311 (za 10 NM)) → (1 ≤ g ∧ g ≤ 10 ∧ 0 ≤ m_fault ∧ m_fault ≤ 14) → (fx o o [280] G0 G) → (G.length = G0.length) → (ab_slots G = ab_slots G0) → (Int.toNat (10 - g) < mz) → (∀ (G2 : ab_G) (f2 : Int) (p2 : Int), (cc o G2 80 280 (ab_ob 12 (mof m_thrown m_taped m_length m_out m_wide m_gathered m_sets m_ranges m_nodes m_at m_flags f2 p2 m_numbered m_depth m_value m_isNot m_least0 m_most0 m_slot m_work m_got m_rowMany m_charAt m_charWide m_trail m_isMatch m_matchGroups m_allFrom m_allBefore m_founds m_pieces m_writtenMany m_templateWide m_tooMuch))) → (0 ≤ f2 ∧ f2 ≤ 14) → (fx o o [280] G0 G2) → (G2.length = G0.length) → (ab_slots G2 = ab_slots G0) → ab_W X (ab_pl y_MO_readName b_MO_readName 7 none) d G2 192 [some (vR 80), some (vz wh), some (vz fr), some (vz n), none, none, none] [] Q) → ab_W X (ab_pl y_MO_readName b_MO_readName 7 none) d G 88 [some (vR 80), some (vz wh), some (vz fr), some (vz n), some (vz g), none, none] [] Q := by
  intro mz
  induction mz with
  | zero => intro G g m_fault m_place h80 h84 h110 h111 ci hfr hlen hsl hm hk0; exact absurd hm (Nat.not_lt_zero _)
  | succ mz ih =>
    intro G g m_fault m_place h80 h84 h110 h111 ci hfr hlen hsl hm hk0
    refine ab_iload d_MO_readName_88 rfl ?_
    refine ab_aload_n d_MO_readName_90 rfl ?_
    refine ab_getf (fs := mof m_thrown m_taped m_length m_out m_wide m_gathered m_sets m_ranges m_nodes m_at m_flags m_fault m_place m_numbered m_depth m_value m_isNot m_least0 m_most0 m_slot m_work m_got m_rowMany m_charAt m_charWide m_trail m_isMatch m_matchGroups m_allFrom m_allBefore m_founds m_pieces m_writtenMany m_templateWide m_tooMuch) f_MO_395 d_MO_readName_91 h80.2.2 rfl ?_
    refine zz_icmp_gt (tgt := 192) d_MO_readName_94 (by decide) (by omega) (by omega) (fun c1 => ?_) (fun c1 => ?_)
    · refine ab_less (L' := [some (vR 80), some (vz wh), some (vz fr), some (vz n), none, none, none]) (fun i v h => by rcases i with _ | _ | _ | _ | _ | _ | _ | i <;> first | exact h | (simp at h)) ?_
      exact hk0 _ _ _ h80 (by omega) hfr hlen hsl
    · refine ab_iload d_MO_readName_97 rfl ?_
      refine zz_bipush d_MO_readName_99 (by decide) ?_
      refine zz_icmp_ge (tgt := 192) d_MO_readName_101 (by decide) (by omega) (by decide) (fun c2 => absurd c2 (by omega)) (fun c2 => ?_)
      refine ab_aload_n d_MO_readName_104 rfl ?_
      refine ab_getf (fs := mof m_thrown m_taped m_length m_out m_wide m_gathered m_sets m_ranges m_nodes m_at m_flags m_fault m_place m_numbered m_depth m_value m_isNot m_least0 m_most0 m_slot m_work m_got m_rowMany m_charAt m_charWide m_trail m_isMatch m_matchGroups m_allFrom m_allBefore m_founds m_pieces m_writtenMany m_templateWide m_tooMuch) f_MO_106 d_MO_readName_105 h80.2.2 rfl ?_
      refine ab_iload d_MO_readName_108 rfl ?_
      refine zz_iald d_MO_readName_110 h111 (by omega) ?_
      have hq3 := jnm g (by omega) (by omega)
      refine ab_iload_n d_MO_readName_111 rfl ?_
      refine zz_icmp_ne (tgt := 119) d_MO_readName_112 (by decide) (by omega) (by omega) (fun c4 => ?_) (fun c4 => ?_)
      · refine zz_iconst d_MO_readName_119 ?_
        refine ab_istore d_MO_readName_120 (Nat.le_of_ble_eq_true rfl) (Nat.le_of_ble_eq_true rfl) rfl ?_
        change ab_W _ _ _ G 122 [some (vR 80), some (vz wh), some (vz fr), some (vz n), some (vz g), some (vz 0), none] [] _
        refine zz_iconst d_MO_readName_122 ?_
        refine ab_istore d_MO_readName_123 (Nat.le_of_ble_eq_true rfl) (Nat.le_of_ble_eq_true rfl) rfl ?_
        change ab_W _ _ _ G 125 [some (vR 80), some (vz wh), some (vz fr), some (vz n), some (vz g), some (vz 0), some (vz 0)] [] _
        refine y_MO_readName_125 (m_thrown := m_thrown) (m_taped := m_taped) (m_length := m_length) (m_out := m_out) (m_wide := m_wide) (m_gathered := m_gathered) (m_sets := m_sets) (m_ranges := m_ranges) (m_nodes := m_nodes) (m_at := m_at) (m_flags := m_flags) (m_fault := m_fault) (m_place := m_place) (m_numbered := m_numbered) (m_depth := m_depth) (m_value := m_value) (m_isNot := m_isNot) (m_least0 := m_least0) (m_most0 := m_most0) (m_slot := m_slot) (m_work := m_work) (m_got := m_got) (m_rowMany := m_rowMany) (m_charAt := m_charAt) (m_charWide := m_charWide) (m_trail := m_trail) (m_isMatch := m_isMatch) (m_matchGroups := m_matchGroups) (m_allFrom := m_allFrom) (m_allBefore := m_allBefore) (m_founds := m_founds) (m_pieces := m_pieces) (m_writtenMany := m_writtenMany) (m_templateWide := m_templateWide) (m_tooMuch := m_tooMuch) (A_tape := A_tape) (NS := NS) (wh := wh) (fr := fr) (n := n) (g := g) (G0 := G) (sm := 0) (k := 0) (by omega) jtp jns (by omega) (by omega) (by omega) (Int.toNat (n - 0) + 1) h80 h84 h110 (by omega) fx.rf rfl rfl (by omega) (fun G5 s26 hq7 hfk hlk hsk => ?_)
        · have h80 := hfk.get h80 (by decide)
          have h84 := hfk.get h84 (by decide)
          have h110 := hfk.get h110 (by decide)
          have h111 := hfk.get h111 (by decide)
          have hfr := hfr.tr hfk (by decide)
          have hlen := hlk.trans hlen
          have hsl := hsk.trans hsl
          change ab_W _ _ _ G5 174 [some (vR 80), some (vz wh), some (vz fr), some (vz n), some (vz g), some (vz s26), none] [] _
          refine ab_iload d_MO_readName_174 rfl ?_
          refine zz_if_eq (tgt := 186) d_MO_readName_176 (by decide) (by omega) (fun c8 => ?_) (fun c8 => ?_)
          · refine zz_iinc d_MO_readName_186 rfl (Nat.le_of_ble_eq_true rfl) (Nat.le_of_ble_eq_true rfl) rfl ?_
            change ab_W _ _ _ G5 189 [some (vR 80), some (vz wh), some (vz fr), some (vz n), some (vz (g + 1)), some (vz s26), none] [] _
            refine ab_goto (tgt := 88) d_MO_readName_189 (by decide) ?_
            refine ab_less (L' := [some (vR 80), some (vz wh), some (vz fr), some (vz n), some (vz (g + 1)), none, none]) (fun i v h => by rcases i with _ | _ | _ | _ | _ | _ | _ | i <;> first | exact h | (simp at h)) ?_
            exact ih (g := (g + 1)) (m_fault := m_fault) (m_place := m_place) h80 h84 h110 h111 (by omega) hfr hlen hsl (by omega) hk0
          · refine ab_aload_n d_MO_readName_179 rfl ?_
            refine zz_bipush d_MO_readName_180 (by decide) ?_
            refine ab_iload_n d_MO_readName_182 rfl ?_
            refine ab_callV (d' := d - 1) (as := [vz 11, vz wh]) (st := []) (r := _) (z_MO_wrong (o := o) (m_thrown := m_thrown) (m_taped := m_taped) (m_length := m_length) (m_out := m_out) (m_wide := m_wide) (m_gathered := m_gathered) (m_sets := m_sets) (m_ranges := m_ranges) (m_nodes := m_nodes) (m_at := m_at) (m_flags := m_flags) (m_fault := m_fault) (m_place := m_place) (m_numbered := m_numbered) (m_depth := m_depth) (m_value := m_value) (m_isNot := m_isNot) (m_least0 := m_least0) (m_most0 := m_most0) (m_slot := m_slot) (m_work := m_work) (m_got := m_got) (m_rowMany := m_rowMany) (m_charAt := m_charAt) (m_charWide := m_charWide) (m_trail := m_trail) (m_isMatch := m_isMatch) (m_matchGroups := m_matchGroups) (m_allFrom := m_allFrom) (m_allBefore := m_allBefore) (m_founds := m_founds) (m_pieces := m_pieces) (m_writtenMany := m_writtenMany) (m_templateWide := m_templateWide) (m_tooMuch := m_tooMuch) (x := 11) (y := wh) h80 (by omega) (by omega)) (fun oc G2 h => by rcases h with ⟨_, _, h, _⟩ <;> exact ⟨_, h⟩) (by omega) m_MO_wrong ml_MO_304 im_MO_wrong se_MO_wrong c_MO h80.2.2 (Nat.le_of_ble_eq_true rfl) d_MO_readName_183 rfl ?_
            intro v G9 hq
            rcases hq with ⟨f210, p211, hv, hfk, hlk, hsk, hN80, hq12⟩
            cases hv
            have h84 := hfk.get h84 (by decide)
            have h110 := hfk.get h110 (by decide)
            have h111 := hfk.get h111 (by decide)
            have hfr := hfr.tr hfk (by decide)
            have hlen := hlk.trans hlen
            have hsl := hsk.trans hsl
            have h80 := hN80
            change ab_W _ _ _ G9 186 [some (vR 80), some (vz wh), some (vz fr), some (vz n), some (vz g), some (vz s26), none] [] _
            refine zz_iinc d_MO_readName_186 rfl (Nat.le_of_ble_eq_true rfl) (Nat.le_of_ble_eq_true rfl) rfl ?_
            change ab_W _ _ _ G9 189 [some (vR 80), some (vz wh), some (vz fr), some (vz n), some (vz (g + 1)), some (vz s26), none] [] _
            refine ab_goto (tgt := 88) d_MO_readName_189 (by decide) ?_
            refine ab_less (L' := [some (vR 80), some (vz wh), some (vz fr), some (vz n), some (vz (g + 1)), none, none]) (fun i v h => by rcases i with _ | _ | _ | _ | _ | _ | _ | i <;> first | exact h | (simp at h)) ?_
            exact ih (g := (g + 1)) (m_fault := f210) (m_place := p211) h80 h84 h110 h111 (by omega) hfr hlen hsl (by omega) hk0
      · refine zz_iconst d_MO_readName_115 ?_
        refine ab_goto (tgt := 120) d_MO_readName_116 (by decide) ?_
        refine ab_istore d_MO_readName_120 (Nat.le_of_ble_eq_true rfl) (Nat.le_of_ble_eq_true rfl) rfl ?_
        change ab_W _ _ _ G 122 [some (vR 80), some (vz wh), some (vz fr), some (vz n), some (vz g), some (vz 1), none] [] _
        refine zz_iconst d_MO_readName_122 ?_
        refine ab_istore d_MO_readName_123 (Nat.le_of_ble_eq_true rfl) (Nat.le_of_ble_eq_true rfl) rfl ?_
        change ab_W _ _ _ G 125 [some (vR 80), some (vz wh), some (vz fr), some (vz n), some (vz g), some (vz 1), some (vz 0)] [] _
        refine y_MO_readName_125 (m_thrown := m_thrown) (m_taped := m_taped) (m_length := m_length) (m_out := m_out) (m_wide := m_wide) (m_gathered := m_gathered) (m_sets := m_sets) (m_ranges := m_ranges) (m_nodes := m_nodes) (m_at := m_at) (m_flags := m_flags) (m_fault := m_fault) (m_place := m_place) (m_numbered := m_numbered) (m_depth := m_depth) (m_value := m_value) (m_isNot := m_isNot) (m_least0 := m_least0) (m_most0 := m_most0) (m_slot := m_slot) (m_work := m_work) (m_got := m_got) (m_rowMany := m_rowMany) (m_charAt := m_charAt) (m_charWide := m_charWide) (m_trail := m_trail) (m_isMatch := m_isMatch) (m_matchGroups := m_matchGroups) (m_allFrom := m_allFrom) (m_allBefore := m_allBefore) (m_founds := m_founds) (m_pieces := m_pieces) (m_writtenMany := m_writtenMany) (m_templateWide := m_templateWide) (m_tooMuch := m_tooMuch) (A_tape := A_tape) (NS := NS) (wh := wh) (fr := fr) (n := n) (g := g) (G0 := G) (sm := 1) (k := 0) (by omega) jtp jns (by omega) (by omega) (by omega) (Int.toNat (n - 0) + 1) h80 h84 h110 (by omega) fx.rf rfl rfl (by omega) (fun G13 s214 hq15 hfk hlk hsk => ?_)
        · have h80 := hfk.get h80 (by decide)
          have h84 := hfk.get h84 (by decide)
          have h110 := hfk.get h110 (by decide)
          have h111 := hfk.get h111 (by decide)
          have hfr := hfr.tr hfk (by decide)
          have hlen := hlk.trans hlen
          have hsl := hsk.trans hsl
          change ab_W _ _ _ G13 174 [some (vR 80), some (vz wh), some (vz fr), some (vz n), some (vz g), some (vz s214), none] [] _
          refine ab_iload d_MO_readName_174 rfl ?_
          refine zz_if_eq (tgt := 186) d_MO_readName_176 (by decide) (by omega) (fun c16 => ?_) (fun c16 => ?_)
          · refine zz_iinc d_MO_readName_186 rfl (Nat.le_of_ble_eq_true rfl) (Nat.le_of_ble_eq_true rfl) rfl ?_
            change ab_W _ _ _ G13 189 [some (vR 80), some (vz wh), some (vz fr), some (vz n), some (vz (g + 1)), some (vz s214), none] [] _
            refine ab_goto (tgt := 88) d_MO_readName_189 (by decide) ?_
            refine ab_less (L' := [some (vR 80), some (vz wh), some (vz fr), some (vz n), some (vz (g + 1)), none, none]) (fun i v h => by rcases i with _ | _ | _ | _ | _ | _ | _ | i <;> first | exact h | (simp at h)) ?_
            exact ih (g := (g + 1)) (m_fault := m_fault) (m_place := m_place) h80 h84 h110 h111 (by omega) hfr hlen hsl (by omega) hk0
          · refine ab_aload_n d_MO_readName_179 rfl ?_
            refine zz_bipush d_MO_readName_180 (by decide) ?_
            refine ab_iload_n d_MO_readName_182 rfl ?_
            refine ab_callV (d' := d - 1) (as := [vz 11, vz wh]) (st := []) (r := _) (z_MO_wrong (o := o) (m_thrown := m_thrown) (m_taped := m_taped) (m_length := m_length) (m_out := m_out) (m_wide := m_wide) (m_gathered := m_gathered) (m_sets := m_sets) (m_ranges := m_ranges) (m_nodes := m_nodes) (m_at := m_at) (m_flags := m_flags) (m_fault := m_fault) (m_place := m_place) (m_numbered := m_numbered) (m_depth := m_depth) (m_value := m_value) (m_isNot := m_isNot) (m_least0 := m_least0) (m_most0 := m_most0) (m_slot := m_slot) (m_work := m_work) (m_got := m_got) (m_rowMany := m_rowMany) (m_charAt := m_charAt) (m_charWide := m_charWide) (m_trail := m_trail) (m_isMatch := m_isMatch) (m_matchGroups := m_matchGroups) (m_allFrom := m_allFrom) (m_allBefore := m_allBefore) (m_founds := m_founds) (m_pieces := m_pieces) (m_writtenMany := m_writtenMany) (m_templateWide := m_templateWide) (m_tooMuch := m_tooMuch) (x := 11) (y := wh) h80 (by omega) (by omega)) (fun oc G2 h => by rcases h with ⟨_, _, h, _⟩ <;> exact ⟨_, h⟩) (by omega) m_MO_wrong ml_MO_304 im_MO_wrong se_MO_wrong c_MO h80.2.2 (Nat.le_of_ble_eq_true rfl) d_MO_readName_183 rfl ?_
            intro v G17 hq
            rcases hq with ⟨f218, p219, hv, hfk, hlk, hsk, hN80, hq20⟩
            cases hv
            have h84 := hfk.get h84 (by decide)
            have h110 := hfk.get h110 (by decide)
            have h111 := hfk.get h111 (by decide)
            have hfr := hfr.tr hfk (by decide)
            have hlen := hlk.trans hlen
            have hsl := hsk.trans hsl
            have h80 := hN80
            change ab_W _ _ _ G17 186 [some (vR 80), some (vz wh), some (vz fr), some (vz n), some (vz g), some (vz s214), none] [] _
            refine zz_iinc d_MO_readName_186 rfl (Nat.le_of_ble_eq_true rfl) (Nat.le_of_ble_eq_true rfl) rfl ?_
            change ab_W _ _ _ G17 189 [some (vR 80), some (vz wh), some (vz fr), some (vz n), some (vz (g + 1)), some (vz s214), none] [] _
            refine ab_goto (tgt := 88) d_MO_readName_189 (by decide) ?_
            refine ab_less (L' := [some (vR 80), some (vz wh), some (vz fr), some (vz n), some (vz (g + 1)), none, none]) (fun i v h => by rcases i with _ | _ | _ | _ | _ | _ | _ | i <;> first | exact h | (simp at h)) ?_
            exact ih (g := (g + 1)) (m_fault := f218) (m_place := p219) h80 h84 h110 h111 (by omega) hfr hlen hsl (by omega) hk0
set_option maxRecDepth 100000 in
set_option maxHeartbeats 4000000 in
theorem z_MO_readName {X : ab_X} {d : Nat} {o : Nat → Nat} {G : ab_G} {m_thrown : Int} {m_taped : Int} {m_length : Int} {m_out : Int} {m_wide : Int} {m_gathered : Int} {m_sets : Int} {m_ranges : Int} {m_nodes : Int} {m_at : Int} {m_flags : Int} {m_fault : Int} {m_place : Int} {m_numbered : Int} {m_depth : Int} {m_value : Int} {m_isNot : Int} {m_least0 : Int} {m_most0 : Int} {m_slot : Int} {m_work : Int} {m_got : Int} {m_rowMany : Int} {m_charAt : Int} {m_charWide : Int} {m_trail : Int} {m_isMatch : Int} {m_matchGroups : Int} {m_allFrom : Int} {m_allBefore : Int} {m_founds : Int} {m_pieces : Int} {m_writtenMany : Int} {m_templateWide : Int} {m_tooMuch : Int} {A_tape : Int → Int} {LO : Int → Int} {HI : Int → Int} {MK : Int → Int} {RL : Int → Int} {RH : Int → Int} {NS : Int → Int} {NM : Int → Int} {wh : Int} (h80 : cc o G 80 280 (ab_ob 12 (mof m_thrown m_taped m_length m_out m_wide m_gathered m_sets m_ranges m_nodes m_at m_flags m_fault m_place m_numbered m_depth m_value m_isNot m_least0 m_most0 m_slot m_work m_got m_rowMany m_charAt m_charWide m_trail m_isMatch m_matchGroups m_allFrom m_allBefore m_founds m_pieces m_writtenMany m_templateWide m_tooMuch))) (h84 : cc o G 84 284 (za 2000 A_tape)) (h87 : cc o G 87 287 (za 9000 LO)) (h88 : cc o G 88 288 (za 9000 HI)) (h93 : cc o G 93 293 (zb 1200 MK)) (h81 : cc o G 81 281 (za 13 tbA)) (h82 : cc o G 82 282 (za 66 tbT)) (h91 : cc o G 91 291 (za 24000 RL)) (h92 : cc o G 92 292 (za 24000 RH)) (h110 : cc o G 110 310 (za 120 NS)) (h111 : cc o G 111 311 (za 10 NM)) (ptrI_0 : trI o G 0 m_nodes m_sets (m_depth + 1) (-1) 0 0) (n18 : ab_n0 = 18) (cta : 0 ≤ m_taped ∧ m_taped ≤ 2000) (jtp : rgs A_tape 2000 0 255) (jmk : rgs MK 1200 0 1) (jrl : rgs RL 24000 0 1114111) (jrh : rgs RH 24000 0 1114111) (jns : rgs NS 120 0 255) (jnm : rgs NM 10 0 12) (cf : m_fault = 0) (cat : 0 ≤ m_at ∧ m_at < m_taped) (cpo : 0 ≤ m_nodes ∧ m_nodes + 2 * m_depth + 0 ≤ 2 * m_at ∧ 0 ≤ m_sets ∧ m_sets + 0 ≤ m_at ∧ 0 ≤ m_ranges ∧ m_ranges + 0 ≤ 12 * m_at ∧ 0 ≤ m_depth ∧ m_depth ≤ 30 ∧ 0 ≤ m_numbered ∧ m_numbered ≤ 9 ∧ -2147483648 ≤ m_flags ∧ m_flags ≤ 2147483647 ∧ -2147483648 ≤ m_value ∧ m_value ≤ 2147483647) (cwh : -1 ≤ wh ∧ wh ≤ 2010) (hd : 3 ≤ d) : ab_F X d y_MO_readName (.code y_MO_readName b_MO_readName 7 none) [vR 80, vz wh] G (fun oc G2 => (∃ a2 : Int, ∃ v2 : Int, ∃ nt2 : Int, ∃ w2 : Int, ∃ g2 : Int, ∃ s2 : Int, ∃ r2 : Int, ∃ n2 : Int, ∃ fl2 : Int, ∃ nu2 : Int, ∃ d2 : Int, ∃ le2 : Int, ∃ mo2 : Int, ∃ f2 : Int, ∃ p2 : Int, ∃ LO2 : Int → Int, ∃ HI2 : Int → Int, ∃ MK2 : Int → Int, ∃ RL2 : Int → Int, ∃ RH2 : Int → Int, ∃ NS2 : Int → Int, ∃ NM2 : Int → Int, oc = .returned none ∧ fx o o [280, 287, 288, 293, 291, 292, 310, 311, 294, 295, 296, 297, 298, 299, 300, 301, 290, 289, 305, 306, 307, 308, 309, 302, 303, 304] G G2 ∧ G2.length = G.length ∧ ab_slots G2 = ab_slots G ∧ cc o G2 80 280 (ab_ob 12 (mof m_thrown m_taped m_length m_out w2 g2 s2 r2 n2 a2 fl2 f2 p2 nu2 d2 v2 nt2 le2 mo2 m_slot m_work m_got m_rowMany m_charAt m_charWide m_trail m_isMatch m_matchGroups m_allFrom m_allBefore m_founds m_pieces m_writtenMany m_templateWide m_tooMuch)) ∧ cc o G2 87 287 (za 9000 LO2) ∧ cc o G2 88 288 (za 9000 HI2) ∧ cc o G2 93 293 (zb 1200 MK2) ∧ cc o G2 91 291 (za 24000 RL2) ∧ cc o G2 92 292 (za 24000 RH2) ∧ cc o G2 110 310 (za 120 NS2) ∧ cc o G2 111 311 (za 10 NM2) ∧ trI o G2 0 n2 s2 (d2 + 1) (-1) 0 0 ∧ (f2 = 0 ∧ m_at < a2 ∧ a2 ≤ m_taped ∧ 0 ≤ n2 ∧ n2 + 2 * d2 ≤ 2 * a2 ∧ 0 ≤ s2 ∧ s2 ≤ a2 ∧ 0 ≤ r2 ∧ r2 ≤ 12 * a2 ∧ 0 ≤ d2 ∧ d2 ≤ 30 ∧ 0 ≤ nu2 ∧ nu2 ≤ 9 ∧ -2147483648 ≤ fl2 ∧ fl2 ≤ 2147483647 ∧ -2147483648 ≤ v2 ∧ v2 ≤ 2147483647) ∧ (rgs MK2 1200 0 1) ∧ (rgs RL2 24000 0 1114111) ∧ (rgs RH2 24000 0 1114111) ∧ (rgs NS2 120 0 255) ∧ (rgs NM2 10 0 12)) ∨ (∃ a2 : Int, ∃ v2 : Int, ∃ nt2 : Int, ∃ w2 : Int, ∃ g2 : Int, ∃ s2 : Int, ∃ r2 : Int, ∃ n2 : Int, ∃ fl2 : Int, ∃ nu2 : Int, ∃ d2 : Int, ∃ le2 : Int, ∃ mo2 : Int, ∃ f2 : Int, ∃ p2 : Int, ∃ LO2 : Int → Int, ∃ HI2 : Int → Int, ∃ MK2 : Int → Int, ∃ RL2 : Int → Int, ∃ RH2 : Int → Int, ∃ NS2 : Int → Int, ∃ NM2 : Int → Int, oc = .returned none ∧ fx o o [280, 287, 288, 293, 291, 292, 310, 311, 294, 295, 296, 297, 298, 299, 300, 301, 290, 289, 305, 306, 307, 308, 309, 302, 303, 304] G G2 ∧ G2.length = G.length ∧ ab_slots G2 = ab_slots G ∧ cc o G2 80 280 (ab_ob 12 (mof m_thrown m_taped m_length m_out w2 g2 s2 r2 n2 a2 fl2 f2 p2 nu2 d2 v2 nt2 le2 mo2 m_slot m_work m_got m_rowMany m_charAt m_charWide m_trail m_isMatch m_matchGroups m_allFrom m_allBefore m_founds m_pieces m_writtenMany m_templateWide m_tooMuch)) ∧ cc o G2 87 287 (za 9000 LO2) ∧ cc o G2 88 288 (za 9000 HI2) ∧ cc o G2 93 293 (zb 1200 MK2) ∧ cc o G2 91 291 (za 24000 RL2) ∧ cc o G2 92 292 (za 24000 RH2) ∧ cc o G2 110 310 (za 120 NS2) ∧ cc o G2 111 311 (za 10 NM2) ∧ trI o G2 0 n2 s2 (d2 + 1) (-1) 0 0 ∧ (1 ≤ f2 ∧ f2 ≤ 14 ∧ 0 ≤ a2 ∧ a2 ≤ 4000 ∧ 0 ≤ n2 ∧ n2 ≤ 4200 ∧ 0 ≤ s2 ∧ s2 ≤ 2100 ∧ 0 ≤ r2 ∧ r2 ≤ 24000 ∧ 0 ≤ d2 ∧ d2 ≤ 30 ∧ 0 ≤ nu2 ∧ nu2 ≤ 9 ∧ -2147483648 ≤ fl2 ∧ fl2 ≤ 2147483647 ∧ -2147483648 ≤ v2 ∧ v2 ≤ 2147483647) ∧ (rgs MK2 1200 0 1) ∧ (rgs RL2 24000 0 1114111) ∧ (rgs RH2 24000 0 1114111) ∧ (rgs NS2 120 0 255) ∧ (rgs NM2 10 0 12))) := by
  refine ab_F_of (by decide +kernel) (Nat.le_of_ble_eq_true rfl) ?_
  obtain ⟨Q, hQ⟩ : ∃ z : Outcome → ab_G → Prop, z = (fun oc G2 => (∃ a2 : Int, ∃ v2 : Int, ∃ nt2 : Int, ∃ w2 : Int, ∃ g2 : Int, ∃ s2 : Int, ∃ r2 : Int, ∃ n2 : Int, ∃ fl2 : Int, ∃ nu2 : Int, ∃ d2 : Int, ∃ le2 : Int, ∃ mo2 : Int, ∃ f2 : Int, ∃ p2 : Int, ∃ LO2 : Int → Int, ∃ HI2 : Int → Int, ∃ MK2 : Int → Int, ∃ RL2 : Int → Int, ∃ RH2 : Int → Int, ∃ NS2 : Int → Int, ∃ NM2 : Int → Int, oc = .returned none ∧ fx o o [280, 287, 288, 293, 291, 292, 310, 311, 294, 295, 296, 297, 298, 299, 300, 301, 290, 289, 305, 306, 307, 308, 309, 302, 303, 304] G G2 ∧ G2.length = G.length ∧ ab_slots G2 = ab_slots G ∧ cc o G2 80 280 (ab_ob 12 (mof m_thrown m_taped m_length m_out w2 g2 s2 r2 n2 a2 fl2 f2 p2 nu2 d2 v2 nt2 le2 mo2 m_slot m_work m_got m_rowMany m_charAt m_charWide m_trail m_isMatch m_matchGroups m_allFrom m_allBefore m_founds m_pieces m_writtenMany m_templateWide m_tooMuch)) ∧ cc o G2 87 287 (za 9000 LO2) ∧ cc o G2 88 288 (za 9000 HI2) ∧ cc o G2 93 293 (zb 1200 MK2) ∧ cc o G2 91 291 (za 24000 RL2) ∧ cc o G2 92 292 (za 24000 RH2) ∧ cc o G2 110 310 (za 120 NS2) ∧ cc o G2 111 311 (za 10 NM2) ∧ trI o G2 0 n2 s2 (d2 + 1) (-1) 0 0 ∧ (f2 = 0 ∧ m_at < a2 ∧ a2 ≤ m_taped ∧ 0 ≤ n2 ∧ n2 + 2 * d2 ≤ 2 * a2 ∧ 0 ≤ s2 ∧ s2 ≤ a2 ∧ 0 ≤ r2 ∧ r2 ≤ 12 * a2 ∧ 0 ≤ d2 ∧ d2 ≤ 30 ∧ 0 ≤ nu2 ∧ nu2 ≤ 9 ∧ -2147483648 ≤ fl2 ∧ fl2 ≤ 2147483647 ∧ -2147483648 ≤ v2 ∧ v2 ≤ 2147483647) ∧ (rgs MK2 1200 0 1) ∧ (rgs RL2 24000 0 1114111) ∧ (rgs RH2 24000 0 1114111) ∧ (rgs NS2 120 0 255) ∧ (rgs NM2 10 0 12)) ∨ (∃ a2 : Int, ∃ v2 : Int, ∃ nt2 : Int, ∃ w2 : Int, ∃ g2 : Int, ∃ s2 : Int, ∃ r2 : Int, ∃ n2 : Int, ∃ fl2 : Int, ∃ nu2 : Int, ∃ d2 : Int, ∃ le2 : Int, ∃ mo2 : Int, ∃ f2 : Int, ∃ p2 : Int, ∃ LO2 : Int → Int, ∃ HI2 : Int → Int, ∃ MK2 : Int → Int, ∃ RL2 : Int → Int, ∃ RH2 : Int → Int, ∃ NS2 : Int → Int, ∃ NM2 : Int → Int, oc = .returned none ∧ fx o o [280, 287, 288, 293, 291, 292, 310, 311, 294, 295, 296, 297, 298, 299, 300, 301, 290, 289, 305, 306, 307, 308, 309, 302, 303, 304] G G2 ∧ G2.length = G.length ∧ ab_slots G2 = ab_slots G ∧ cc o G2 80 280 (ab_ob 12 (mof m_thrown m_taped m_length m_out w2 g2 s2 r2 n2 a2 fl2 f2 p2 nu2 d2 v2 nt2 le2 mo2 m_slot m_work m_got m_rowMany m_charAt m_charWide m_trail m_isMatch m_matchGroups m_allFrom m_allBefore m_founds m_pieces m_writtenMany m_templateWide m_tooMuch)) ∧ cc o G2 87 287 (za 9000 LO2) ∧ cc o G2 88 288 (za 9000 HI2) ∧ cc o G2 93 293 (zb 1200 MK2) ∧ cc o G2 91 291 (za 24000 RL2) ∧ cc o G2 92 292 (za 24000 RH2) ∧ cc o G2 110 310 (za 120 NS2) ∧ cc o G2 111 311 (za 10 NM2) ∧ trI o G2 0 n2 s2 (d2 + 1) (-1) 0 0 ∧ (1 ≤ f2 ∧ f2 ≤ 14 ∧ 0 ≤ a2 ∧ a2 ≤ 4000 ∧ 0 ≤ n2 ∧ n2 ≤ 4200 ∧ 0 ≤ s2 ∧ s2 ≤ 2100 ∧ 0 ≤ r2 ∧ r2 ≤ 24000 ∧ 0 ≤ d2 ∧ d2 ≤ 30 ∧ 0 ≤ nu2 ∧ nu2 ≤ 9 ∧ -2147483648 ≤ fl2 ∧ fl2 ≤ 2147483647 ∧ -2147483648 ≤ v2 ∧ v2 ≤ 2147483647) ∧ (rgs MK2 1200 0 1) ∧ (rgs RL2 24000 0 1114111) ∧ (rgs RH2 24000 0 1114111) ∧ (rgs NS2 120 0 255) ∧ (rgs NM2 10 0 12))) := ⟨_, rfl⟩
  rw [← hQ]
  change ab_W X (ab_pl y_MO_readName b_MO_readName 7 none) d G 0 [some (vR 80), some (vz wh), none, none, none, none, none] [] Q
  have hfr : fx o o [280, 287, 288, 293, 291, 292, 310, 311, 294, 295, 296, 297, 298, 299, 300, 301, 290, 289, 305, 306, 307, 308, 309, 302, 303, 304] G G := fx.rf
  have hlen : G.length = G.length := rfl
  have hsl : ab_slots G = ab_slots G := rfl
  refine ab_aload_n d_MO_readName_0 rfl ?_
  refine ab_getf (fs := mof m_thrown m_taped m_length m_out m_wide m_gathered m_sets m_ranges m_nodes m_at m_flags m_fault m_place m_numbered m_depth m_value m_isNot m_least0 m_most0 m_slot m_work m_got m_rowMany m_charAt m_charWide m_trail m_isMatch m_matchGroups m_allFrom m_allBefore m_founds m_pieces m_writtenMany m_templateWide m_tooMuch) f_MO_279 d_MO_readName_1 h80.2.2 rfl ?_
  refine zz_iconst d_MO_readName_4 ?_
  refine zz_iadd d_MO_readName_5 ?_
  refine ab_istore_n d_MO_readName_6 (Nat.le_of_ble_eq_true rfl) (Nat.le_of_ble_eq_true rfl) rfl ?_
  change ab_W _ _ _ G 7 [some (vR 80), some (vz wh), some (vz (m_at + 4)), none, none, none, none] [] _
  refine zz_iconst d_MO_readName_7 ?_
  refine ab_istore_n d_MO_readName_8 (Nat.le_of_ble_eq_true rfl) (Nat.le_of_ble_eq_true rfl) rfl ?_
  change ab_W _ _ _ G 9 [some (vR 80), some (vz wh), some (vz (m_at + 4)), some (vz 0), none, none, none] [] _
  refine y_MO_readName_9 (m_thrown := m_thrown) (m_taped := m_taped) (m_length := m_length) (m_out := m_out) (m_wide := m_wide) (m_gathered := m_gathered) (m_sets := m_sets) (m_ranges := m_ranges) (m_nodes := m_nodes) (m_at := m_at) (m_flags := m_flags) (m_fault := m_fault) (m_place := m_place) (m_numbered := m_numbered) (m_depth := m_depth) (m_value := m_value) (m_isNot := m_isNot) (m_least0 := m_least0) (m_most0 := m_most0) (m_slot := m_slot) (m_work := m_work) (m_got := m_got) (m_rowMany := m_rowMany) (m_charAt := m_charAt) (m_charWide := m_charWide) (m_trail := m_trail) (m_isMatch := m_isMatch) (m_matchGroups := m_matchGroups) (m_allFrom := m_allFrom) (m_allBefore := m_allBefore) (m_founds := m_founds) (m_pieces := m_pieces) (m_writtenMany := m_writtenMany) (m_templateWide := m_templateWide) (m_tooMuch := m_tooMuch) (A_tape := A_tape) (wh := wh) (fr := (m_at + 4)) (G0 := G) (n := 0) (by omega) jtp (by omega) (by omega) (Int.toNat (13 - 0) + 1) h80 h84 (by omega) fx.rf rfl rfl (by omega) (fun G1 n22 hq3 hfk hlk hsk => ?_)
  · have h80 := hfk.get h80 (by decide)
    have h84 := hfk.get h84 (by decide)
    have h87 := hfk.get h87 (by decide)
    have h88 := hfk.get h88 (by decide)
    have h93 := hfk.get h93 (by decide)
    have h81 := hfk.get h81 (by decide)
    have h82 := hfk.get h82 (by decide)
    have h91 := hfk.get h91 (by decide)
    have h92 := hfk.get h92 (by decide)
    have h110 := hfk.get h110 (by decide)
    have h111 := hfk.get h111 (by decide)
    have ptrI_0 := trI.fr hfk ptrI_0 (by decide) (by decide) (by decide) (by decide) (by decide) (by decide) (by decide) (by decide) (by decide) (by decide) (by decide) (by decide) (by decide) (by decide) (by decide) (by decide) (by decide) (by decide)
    have hfr := hfr.tr hfk (by decide)
    have hlen := hlk.trans hlen
    have hsl := hsk.trans hsl
    change ab_W _ _ _ G1 44 [some (vR 80), some (vz wh), some (vz (m_at + 4)), some (vz n22), none, none, none] [] _
    refine ab_aload_n d_MO_readName_44 rfl ?_
    refine zz_iconst d_MO_readName_45 ?_
    refine ab_callV (d' := d - 1) (as := [vz 3]) (st := []) (r := _) (z_MO_here (o := o) (m_thrown := m_thrown) (m_taped := m_taped) (m_length := m_length) (m_out := m_out) (m_wide := m_wide) (m_gathered := m_gathered) (m_sets := m_sets) (m_ranges := m_ranges) (m_nodes := m_nodes) (m_at := m_at) (m_flags := m_flags) (m_fault := m_fault) (m_place := m_place) (m_numbered := m_numbered) (m_depth := m_depth) (m_value := m_value) (m_isNot := m_isNot) (m_least0 := m_least0) (m_most0 := m_most0) (m_slot := m_slot) (m_work := m_work) (m_got := m_got) (m_rowMany := m_rowMany) (m_charAt := m_charAt) (m_charWide := m_charWide) (m_trail := m_trail) (m_isMatch := m_isMatch) (m_matchGroups := m_matchGroups) (m_allFrom := m_allFrom) (m_allBefore := m_allBefore) (m_founds := m_founds) (m_pieces := m_pieces) (m_writtenMany := m_writtenMany) (m_templateWide := m_templateWide) (m_tooMuch := m_tooMuch) (A_tape := A_tape) (k := 3) h80 h84 (by omega) (by omega) jtp (by omega)) (fun oc G2 h => by rcases h with ⟨h, _⟩ | ⟨h, _⟩ <;> exact ⟨_, h⟩) (by omega) m_MO_here ml_MO_297 im_MO_here se_MO_here c_MO h80.2.2 (Nat.le_of_ble_eq_true rfl) d_MO_readName_46 rfl ?_
    intro v G4 hq
    rcases hq with ⟨hv, hGe, hq5⟩ | ⟨hv, hGe, hq6⟩
    · cases hv
      rw [hGe]
      change ab_W _ _ _ G1 49 [some (vR 80), some (vz wh), some (vz (m_at + 4)), some (vz n22), none, none, none] [vz (A_tape (m_at + 3))] _
      refine zz_bipush d_MO_readName_49 (by decide) ?_
      refine zz_icmp_ne (tgt := 77) d_MO_readName_51 (by decide) (by omega) (by decide) (fun c7 => ?_) (fun c7 => ?_)
      · refine ab_aload_n d_MO_readName_77 rfl ?_
        refine zz_bipush d_MO_readName_78 (by decide) ?_
        refine ab_iload_n d_MO_readName_80 rfl ?_
        refine ab_callV (d' := d - 1) (as := [vz 10, vz wh]) (st := []) (r := _) (z_MO_wrong (o := o) (m_thrown := m_thrown) (m_taped := m_taped) (m_length := m_length) (m_out := m_out) (m_wide := m_wide) (m_gathered := m_gathered) (m_sets := m_sets) (m_ranges := m_ranges) (m_nodes := m_nodes) (m_at := m_at) (m_flags := m_flags) (m_fault := m_fault) (m_place := m_place) (m_numbered := m_numbered) (m_depth := m_depth) (m_value := m_value) (m_isNot := m_isNot) (m_least0 := m_least0) (m_most0 := m_most0) (m_slot := m_slot) (m_work := m_work) (m_got := m_got) (m_rowMany := m_rowMany) (m_charAt := m_charAt) (m_charWide := m_charWide) (m_trail := m_trail) (m_isMatch := m_isMatch) (m_matchGroups := m_matchGroups) (m_allFrom := m_allFrom) (m_allBefore := m_allBefore) (m_founds := m_founds) (m_pieces := m_pieces) (m_writtenMany := m_writtenMany) (m_templateWide := m_templateWide) (m_tooMuch := m_tooMuch) (x := 10) (y := wh) h80 (by omega) (by omega)) (fun oc G2 h => by rcases h with ⟨_, _, h, _⟩ <;> exact ⟨_, h⟩) (by omega) m_MO_wrong ml_MO_304 im_MO_wrong se_MO_wrong c_MO h80.2.2 (Nat.le_of_ble_eq_true rfl) d_MO_readName_81 rfl ?_
        intro v G8 hq
        rcases hq with ⟨f29, p210, hv, hfk, hlk, hsk, hN80, hq11⟩
        cases hv
        have h84 := hfk.get h84 (by decide)
        have h87 := hfk.get h87 (by decide)
        have h88 := hfk.get h88 (by decide)
        have h93 := hfk.get h93 (by decide)
        have h81 := hfk.get h81 (by decide)
        have h82 := hfk.get h82 (by decide)
        have h91 := hfk.get h91 (by decide)
        have h92 := hfk.get h92 (by decide)
        have h110 := hfk.get h110 (by decide)
        have h111 := hfk.get h111 (by decide)
        have ptrI_0 := trI.fr hfk ptrI_0 (by decide) (by decide) (by decide) (by decide) (by decide) (by decide) (by decide) (by decide) (by decide) (by decide) (by decide) (by decide) (by decide) (by decide) (by decide) (by decide) (by decide) (by decide)
        have hfr := hfr.tr hfk (by decide)
        have hlen := hlk.trans hlen
        have hsl := hsk.trans hsl
        have h80 := hN80
        change ab_W _ _ _ G8 84 [some (vR 80), some (vz wh), some (vz (m_at + 4)), some (vz n22), none, none, none] [] _
        refine ab_vret rfl d_MO_readName_84 ?_
        rw [hQ]; exact (Or.inr ⟨_, _, _, _, _, _, _, _, _, _, _, _, _, _, _, _, _, _, _, _, _, _, rfl, hfr, hlen, hsl, h80, h87, h88, h93, h91, h92, h110, h111, ptrI_0, (by omega), (by first | exact jmk | exact rgs_w jmk (by omega)), (by first | exact jrl | exact rgs_w jrl (by omega)), (by first | exact jrh | exact rgs_w jrh (by omega)), (by first | exact jns | exact rgs_w jns (by omega)), (by first | exact jnm | exact rgs_w jnm (by omega))⟩)
      · refine ab_iload_n d_MO_readName_54 rfl ?_
        refine zz_iconst d_MO_readName_55 ?_
        refine zz_icmp_lt (tgt := 77) d_MO_readName_56 (by decide) (by omega) (by decide) (fun c12 => ?_) (fun c12 => ?_)
        · refine ab_aload_n d_MO_readName_77 rfl ?_
          refine zz_bipush d_MO_readName_78 (by decide) ?_
          refine ab_iload_n d_MO_readName_80 rfl ?_
          refine ab_callV (d' := d - 1) (as := [vz 10, vz wh]) (st := []) (r := _) (z_MO_wrong (o := o) (m_thrown := m_thrown) (m_taped := m_taped) (m_length := m_length) (m_out := m_out) (m_wide := m_wide) (m_gathered := m_gathered) (m_sets := m_sets) (m_ranges := m_ranges) (m_nodes := m_nodes) (m_at := m_at) (m_flags := m_flags) (m_fault := m_fault) (m_place := m_place) (m_numbered := m_numbered) (m_depth := m_depth) (m_value := m_value) (m_isNot := m_isNot) (m_least0 := m_least0) (m_most0 := m_most0) (m_slot := m_slot) (m_work := m_work) (m_got := m_got) (m_rowMany := m_rowMany) (m_charAt := m_charAt) (m_charWide := m_charWide) (m_trail := m_trail) (m_isMatch := m_isMatch) (m_matchGroups := m_matchGroups) (m_allFrom := m_allFrom) (m_allBefore := m_allBefore) (m_founds := m_founds) (m_pieces := m_pieces) (m_writtenMany := m_writtenMany) (m_templateWide := m_templateWide) (m_tooMuch := m_tooMuch) (x := 10) (y := wh) h80 (by omega) (by omega)) (fun oc G2 h => by rcases h with ⟨_, _, h, _⟩ <;> exact ⟨_, h⟩) (by omega) m_MO_wrong ml_MO_304 im_MO_wrong se_MO_wrong c_MO h80.2.2 (Nat.le_of_ble_eq_true rfl) d_MO_readName_81 rfl ?_
          intro v G13 hq
          rcases hq with ⟨f214, p215, hv, hfk, hlk, hsk, hN80, hq16⟩
          cases hv
          have h84 := hfk.get h84 (by decide)
          have h87 := hfk.get h87 (by decide)
          have h88 := hfk.get h88 (by decide)
          have h93 := hfk.get h93 (by decide)
          have h81 := hfk.get h81 (by decide)
          have h82 := hfk.get h82 (by decide)
          have h91 := hfk.get h91 (by decide)
          have h92 := hfk.get h92 (by decide)
          have h110 := hfk.get h110 (by decide)
          have h111 := hfk.get h111 (by decide)
          have ptrI_0 := trI.fr hfk ptrI_0 (by decide) (by decide) (by decide) (by decide) (by decide) (by decide) (by decide) (by decide) (by decide) (by decide) (by decide) (by decide) (by decide) (by decide) (by decide) (by decide) (by decide) (by decide)
          have hfr := hfr.tr hfk (by decide)
          have hlen := hlk.trans hlen
          have hsl := hsk.trans hsl
          have h80 := hN80
          change ab_W _ _ _ G13 84 [some (vR 80), some (vz wh), some (vz (m_at + 4)), some (vz n22), none, none, none] [] _
          refine ab_vret rfl d_MO_readName_84 ?_
          rw [hQ]; exact (Or.inr ⟨_, _, _, _, _, _, _, _, _, _, _, _, _, _, _, _, _, _, _, _, _, _, rfl, hfr, hlen, hsl, h80, h87, h88, h93, h91, h92, h110, h111, ptrI_0, (by omega), (by first | exact jmk | exact rgs_w jmk (by omega)), (by first | exact jrl | exact rgs_w jrl (by omega)), (by first | exact jrh | exact rgs_w jrh (by omega)), (by first | exact jns | exact rgs_w jns (by omega)), (by first | exact jnm | exact rgs_w jnm (by omega))⟩)
        · refine ab_iload_n d_MO_readName_59 rfl ?_
          refine zz_bipush d_MO_readName_60 (by decide) ?_
          refine zz_icmp_gt (tgt := 77) d_MO_readName_62 (by decide) (by omega) (by decide) (fun c17 => ?_) (fun c17 => ?_)
          · refine ab_aload_n d_MO_readName_77 rfl ?_
            refine zz_bipush d_MO_readName_78 (by decide) ?_
            refine ab_iload_n d_MO_readName_80 rfl ?_
            refine ab_callV (d' := d - 1) (as := [vz 10, vz wh]) (st := []) (r := _) (z_MO_wrong (o := o) (m_thrown := m_thrown) (m_taped := m_taped) (m_length := m_length) (m_out := m_out) (m_wide := m_wide) (m_gathered := m_gathered) (m_sets := m_sets) (m_ranges := m_ranges) (m_nodes := m_nodes) (m_at := m_at) (m_flags := m_flags) (m_fault := m_fault) (m_place := m_place) (m_numbered := m_numbered) (m_depth := m_depth) (m_value := m_value) (m_isNot := m_isNot) (m_least0 := m_least0) (m_most0 := m_most0) (m_slot := m_slot) (m_work := m_work) (m_got := m_got) (m_rowMany := m_rowMany) (m_charAt := m_charAt) (m_charWide := m_charWide) (m_trail := m_trail) (m_isMatch := m_isMatch) (m_matchGroups := m_matchGroups) (m_allFrom := m_allFrom) (m_allBefore := m_allBefore) (m_founds := m_founds) (m_pieces := m_pieces) (m_writtenMany := m_writtenMany) (m_templateWide := m_templateWide) (m_tooMuch := m_tooMuch) (x := 10) (y := wh) h80 (by omega) (by omega)) (fun oc G2 h => by rcases h with ⟨_, _, h, _⟩ <;> exact ⟨_, h⟩) (by omega) m_MO_wrong ml_MO_304 im_MO_wrong se_MO_wrong c_MO h80.2.2 (Nat.le_of_ble_eq_true rfl) d_MO_readName_81 rfl ?_
            intro v G18 hq
            rcases hq with ⟨f219, p220, hv, hfk, hlk, hsk, hN80, hq21⟩
            cases hv
            have h84 := hfk.get h84 (by decide)
            have h87 := hfk.get h87 (by decide)
            have h88 := hfk.get h88 (by decide)
            have h93 := hfk.get h93 (by decide)
            have h81 := hfk.get h81 (by decide)
            have h82 := hfk.get h82 (by decide)
            have h91 := hfk.get h91 (by decide)
            have h92 := hfk.get h92 (by decide)
            have h110 := hfk.get h110 (by decide)
            have h111 := hfk.get h111 (by decide)
            have ptrI_0 := trI.fr hfk ptrI_0 (by decide) (by decide) (by decide) (by decide) (by decide) (by decide) (by decide) (by decide) (by decide) (by decide) (by decide) (by decide) (by decide) (by decide) (by decide) (by decide) (by decide) (by decide)
            have hfr := hfr.tr hfk (by decide)
            have hlen := hlk.trans hlen
            have hsl := hsk.trans hsl
            have h80 := hN80
            change ab_W _ _ _ G18 84 [some (vR 80), some (vz wh), some (vz (m_at + 4)), some (vz n22), none, none, none] [] _
            refine ab_vret rfl d_MO_readName_84 ?_
            rw [hQ]; exact (Or.inr ⟨_, _, _, _, _, _, _, _, _, _, _, _, _, _, _, _, _, _, _, _, _, _, rfl, hfr, hlen, hsl, h80, h87, h88, h93, h91, h92, h110, h111, ptrI_0, (by omega), (by first | exact jmk | exact rgs_w jmk (by omega)), (by first | exact jrl | exact rgs_w jrl (by omega)), (by first | exact jrh | exact rgs_w jrh (by omega)), (by first | exact jns | exact rgs_w jns (by omega)), (by first | exact jnm | exact rgs_w jnm (by omega))⟩)
          · refine ab_aload_n d_MO_readName_65 rfl ?_
            refine zz_iconst d_MO_readName_66 ?_
            refine ab_iload_n d_MO_readName_67 rfl ?_
            refine zz_iadd d_MO_readName_68 ?_
            refine ab_callV (d' := d - 1) (as := [vz (4 + n22)]) (st := []) (r := _) (z_MO_here (o := o) (m_thrown := m_thrown) (m_taped := m_taped) (m_length := m_length) (m_out := m_out) (m_wide := m_wide) (m_gathered := m_gathered) (m_sets := m_sets) (m_ranges := m_ranges) (m_nodes := m_nodes) (m_at := m_at) (m_flags := m_flags) (m_fault := m_fault) (m_place := m_place) (m_numbered := m_numbered) (m_depth := m_depth) (m_value := m_value) (m_isNot := m_isNot) (m_least0 := m_least0) (m_most0 := m_most0) (m_slot := m_slot) (m_work := m_work) (m_got := m_got) (m_rowMany := m_rowMany) (m_charAt := m_charAt) (m_charWide := m_charWide) (m_trail := m_trail) (m_isMatch := m_isMatch) (m_matchGroups := m_matchGroups) (m_allFrom := m_allFrom) (m_allBefore := m_allBefore) (m_founds := m_founds) (m_pieces := m_pieces) (m_writtenMany := m_writtenMany) (m_templateWide := m_templateWide) (m_tooMuch := m_tooMuch) (A_tape := A_tape) (k := (4 + n22)) h80 h84 (by omega) (by omega) jtp (by omega)) (fun oc G2 h => by rcases h with ⟨h, _⟩ | ⟨h, _⟩ <;> exact ⟨_, h⟩) (by omega) m_MO_here ml_MO_297 im_MO_here se_MO_here c_MO h80.2.2 (Nat.le_of_ble_eq_true rfl) d_MO_readName_69 rfl ?_
            intro v G22 hq
            rcases hq with ⟨hv, hGe, hq23⟩ | ⟨hv, hGe, hq24⟩
            · cases hv
              rw [hGe]
              change ab_W _ _ _ G1 72 [some (vR 80), some (vz wh), some (vz (m_at + 4)), some (vz n22), none, none, none] [vz (A_tape (m_at + (4 + n22)))] _
              refine zz_bipush d_MO_readName_72 (by decide) ?_
              refine zz_icmp_eq (tgt := 85) d_MO_readName_74 (by decide) (by omega) (by decide) (fun c25 => ?_) (fun c25 => ?_)
              · refine zz_iconst d_MO_readName_85 ?_
                refine ab_istore d_MO_readName_86 (Nat.le_of_ble_eq_true rfl) (Nat.le_of_ble_eq_true rfl) rfl ?_
                change ab_W _ _ _ G1 88 [some (vR 80), some (vz wh), some (vz (m_at + 4)), some (vz n22), some (vz 1), none, none] [] _
                refine y_MO_readName_88 (m_thrown := m_thrown) (m_taped := m_taped) (m_length := m_length) (m_out := m_out) (m_wide := m_wide) (m_gathered := m_gathered) (m_sets := m_sets) (m_ranges := m_ranges) (m_nodes := m_nodes) (m_at := m_at) (m_flags := m_flags) (m_numbered := m_numbered) (m_depth := m_depth) (m_value := m_value) (m_isNot := m_isNot) (m_least0 := m_least0) (m_most0 := m_most0) (m_slot := m_slot) (m_work := m_work) (m_got := m_got) (m_rowMany := m_rowMany) (m_charAt := m_charAt) (m_charWide := m_charWide) (m_trail := m_trail) (m_isMatch := m_isMatch) (m_matchGroups := m_matchGroups) (m_allFrom := m_allFrom) (m_allBefore := m_allBefore) (m_founds := m_founds) (m_pieces := m_pieces) (m_writtenMany := m_writtenMany) (m_templateWide := m_templateWide) (m_tooMuch := m_tooMuch) (A_tape := A_tape) (NS := NS) (NM := NM) (wh := wh) (fr := (m_at + 4)) (n := n22) (G0 := G1) (g := 1) (m_fault := m_fault) (m_place := m_place) (by omega) (by omega) jtp jns jnm (by omega) (by omega) (by omega) (Int.toNat (10 - 1) + 1) h80 h84 h110 h111 (by omega) fx.rf rfl rfl (by omega) (fun G26 f227 p228 hN80 hq29 hfk hlk hsk => ?_)
                · have h84 := hfk.get h84 (by decide)
                  have h87 := hfk.get h87 (by decide)
                  have h88 := hfk.get h88 (by decide)
                  have h93 := hfk.get h93 (by decide)
                  have h81 := hfk.get h81 (by decide)
                  have h82 := hfk.get h82 (by decide)
                  have h91 := hfk.get h91 (by decide)
                  have h92 := hfk.get h92 (by decide)
                  have h110 := hfk.get h110 (by decide)
                  have h111 := hfk.get h111 (by decide)
                  have ptrI_0 := trI.fr hfk ptrI_0 (by decide) (by decide) (by decide) (by decide) (by decide) (by decide) (by decide) (by decide) (by decide) (by decide) (by decide) (by decide) (by decide) (by decide) (by decide) (by decide) (by decide) (by decide)
                  have hfr := hfr.tr hfk (by decide)
                  have hlen := hlk.trans hlen
                  have hsl := hsk.trans hsl
                  have h80 := hN80
                  change ab_W _ _ _ G26 192 [some (vR 80), some (vz wh), some (vz (m_at + 4)), some (vz n22), none, none, none] [] _
                  refine ab_aload_n d_MO_readName_192 rfl ?_
                  refine ab_dup d_MO_readName_193 rfl ?_
                  refine ab_getf (fs := mof m_thrown m_taped m_length m_out m_wide m_gathered m_sets m_ranges m_nodes m_at m_flags f227 p228 m_numbered m_depth m_value m_isNot m_least0 m_most0 m_slot m_work m_got m_rowMany m_charAt m_charWide m_trail m_isMatch m_matchGroups m_allFrom m_allBefore m_founds m_pieces m_writtenMany m_templateWide m_tooMuch) f_MO_279 d_MO_readName_194 h80.2.2 rfl ?_
                  refine zz_iconst d_MO_readName_197 ?_
                  refine ab_iload_n d_MO_readName_198 rfl ?_
                  refine zz_iadd d_MO_readName_199 ?_
                  refine zz_iadd d_MO_readName_200 ?_
                  refine ab_putf (fs := mof m_thrown m_taped m_length m_out m_wide m_gathered m_sets m_ranges m_nodes m_at m_flags f227 p228 m_numbered m_depth m_value m_isNot m_least0 m_most0 m_slot m_work m_got m_rowMany m_charAt m_charWide m_trail m_isMatch m_matchGroups m_allFrom m_allBefore m_founds m_pieces m_writtenMany m_templateWide m_tooMuch) f_MO_279 (Or.inl rfl) d_MO_readName_201 h80.2.2 (Nat.le_of_ble_eq_true rfl) (fun _ => ⟨rfl, rfl⟩) (h80.2.1 (by decide)) ?_
                  obtain ⟨G30, eG30⟩ : ∃ z : ab_G, z = List.set G26 80 (ab_ob 12 (mof m_thrown m_taped m_length m_out m_wide m_gathered m_sets m_ranges m_nodes (m_at + (5 + n22)) m_flags f227 p228 m_numbered m_depth m_value m_isNot m_least0 m_most0 m_slot m_work m_got m_rowMany m_charAt m_charWide m_trail m_isMatch m_matchGroups m_allFrom m_allBefore m_founds m_pieces m_writtenMany m_templateWide m_tooMuch)) := ⟨_, rfl⟩
                  have h84 := h84.keep h80 eG30 (by decide)
                  have h87 := h87.keep h80 eG30 (by decide)
                  have h88 := h88.keep h80 eG30 (by decide)
                  have h93 := h93.keep h80 eG30 (by decide)
                  have h81 := h81.keep h80 eG30 (by decide)
                  have h82 := h82.keep h80 eG30 (by decide)
                  have h91 := h91.keep h80 eG30 (by decide)
                  have h92 := h92.keep h80 eG30 (by decide)
                  have h110 := h110.keep h80 eG30 (by decide)
                  have h111 := h111.keep h80 eG30 (by decide)
                  have hst := (fx.rf (o := o) (S := [280]) (G := G26)).wr h80 eG30 (List.mem_singleton.mpr rfl)
                  have ptrI_0 := trI.fr hst ptrI_0 (by decide) (by decide) (by decide) (by decide) (by decide) (by decide) (by decide) (by decide) (by decide) (by decide) (by decide) (by decide) (by decide) (by decide) (by decide) (by decide) (by decide) (by decide)
                  have hlen := (z_len eG30).trans hlen
                  have hsl := (z_sl h80 eG30 rfl).trans hsl
                  have hfr := hfr.wr h80 eG30 (by decide)
                  have h80 := h80.kept eG30
                  change ab_W _ _ _ (List.set G26 80 (ab_ob 12 (mof m_thrown m_taped m_length m_out m_wide m_gathered m_sets m_ranges m_nodes (m_at + (5 + n22)) m_flags f227 p228 m_numbered m_depth m_value m_isNot m_least0 m_most0 m_slot m_work m_got m_rowMany m_charAt m_charWide m_trail m_isMatch m_matchGroups m_allFrom m_allBefore m_founds m_pieces m_writtenMany m_templateWide m_tooMuch))) 204 [some (vR 80), some (vz wh), some (vz (m_at + 4)), some (vz n22), none, none, none] [] _
                  rw [← eG30]
                  refine ab_aload_n d_MO_readName_204 rfl ?_
                  refine ab_getf (fs := mof m_thrown m_taped m_length m_out m_wide m_gathered m_sets m_ranges m_nodes (m_at + (5 + n22)) m_flags f227 p228 m_numbered m_depth m_value m_isNot m_least0 m_most0 m_slot m_work m_got m_rowMany m_charAt m_charWide m_trail m_isMatch m_matchGroups m_allFrom m_allBefore m_founds m_pieces m_writtenMany m_templateWide m_tooMuch) f_MO_273 d_MO_readName_205 h80.2.2 rfl ?_
                  refine zz_if_ne (tgt := 218) d_MO_readName_208 (by decide) (by omega) (fun c31 => ?_) (fun c31 => ?_)
                  · refine ab_vret rfl d_MO_readName_218 ?_
                    rw [hQ]; exact (Or.inr ⟨_, _, _, _, _, _, _, _, _, _, _, _, _, _, _, _, _, _, _, _, _, _, rfl, hfr, hlen, hsl, h80, h87, h88, h93, h91, h92, h110, h111, ptrI_0, (by omega), (by first | exact jmk | exact rgs_w jmk (by omega)), (by first | exact jrl | exact rgs_w jrl (by omega)), (by first | exact jrh | exact rgs_w jrh (by omega)), (by first | exact jns | exact rgs_w jns (by omega)), (by first | exact jnm | exact rgs_w jnm (by omega))⟩)
                  · refine ab_aload_n d_MO_readName_211 rfl ?_
                    refine ab_iload_n d_MO_readName_212 rfl ?_
                    refine ab_iload_n d_MO_readName_213 rfl ?_
                    refine ab_iload_n d_MO_readName_214 rfl ?_
                    refine ab_callV (d' := d - 1) (as := [vz wh, vz (m_at + 4), vz n22]) (st := []) (r := _) (z_MO_openNumbered (o := o) (m_thrown := m_thrown) (m_taped := m_taped) (m_length := m_length) (m_out := m_out) (m_wide := m_wide) (m_gathered := m_gathered) (m_sets := m_sets) (m_ranges := m_ranges) (m_nodes := m_nodes) (m_at := (m_at + (5 + n22))) (m_flags := m_flags) (m_fault := f227) (m_place := p228) (m_numbered := m_numbered) (m_depth := m_depth) (m_value := m_value) (m_isNot := m_isNot) (m_least0 := m_least0) (m_most0 := m_most0) (m_slot := m_slot) (m_work := m_work) (m_got := m_got) (m_rowMany := m_rowMany) (m_charAt := m_charAt) (m_charWide := m_charWide) (m_trail := m_trail) (m_isMatch := m_isMatch) (m_matchGroups := m_matchGroups) (m_allFrom := m_allFrom) (m_allBefore := m_allBefore) (m_founds := m_founds) (m_pieces := m_pieces) (m_writtenMany := m_writtenMany) (m_templateWide := m_templateWide) (m_tooMuch := m_tooMuch) (A_tape := A_tape) (LO := LO) (HI := HI) (MK := MK) (RL := RL) (RH := RH) (NS := NS) (NM := NM) (wh := wh) (fr := (m_at + 4)) (n := n22) h80 h84 h87 h88 h93 h81 h82 h91 h92 h110 h111 ptrI_0 (by omega) (by omega) jtp jmk jrl jrh jns jnm (by omega) (by omega) (by omega) (by omega) (by omega) (by omega)) (fun oc G2 h => by rcases h with ⟨_, _, _, _, _, _, _, _, _, _, _, _, _, _, _, _, _, _, _, _, _, _, h, _⟩ | ⟨_, _, _, _, _, _, _, _, _, _, _, _, _, _, _, _, _, _, _, _, _, _, h, _⟩ <;> exact ⟨_, h⟩) (by omega) m_MO_openNumbered ml_MO_382 im_MO_openNumbered se_MO_openNumbered c_MO h80.2.2 (Nat.le_of_ble_eq_true rfl) d_MO_readName_215 rfl ?_
                    intro v G32 hq
                    rcases hq with ⟨a233, v234, nt235, w236, g237, s238, r239, n240, fl241, nu242, d243, le244, mo245, f246, p247, LO248, HI249, MK250, RL251, RH252, NS253, NM254, hv, hfk, hlk, hsk, hN80, hN87, hN88, hN93, hN91, hN92, hN110, hN111, pNtrI_0, hq55, hq56, hq57, hq58, hq59, hq60⟩ | ⟨a261, v262, nt263, w264, g265, s266, r267, n268, fl269, nu270, d271, le272, mo273, f274, p275, LO276, HI277, MK278, RL279, RH280, NS281, NM282, hv, hfk, hlk, hsk, hN80, hN87, hN88, hN93, hN91, hN92, hN110, hN111, pNtrI_0, hq83, hq84, hq85, hq86, hq87, hq88⟩
                    · cases hv
                      have h84 := hfk.get h84 (by decide)
                      have h81 := hfk.get h81 (by decide)
                      have h82 := hfk.get h82 (by decide)
                      have ptrI_0 := pNtrI_0
                      have hfr := hfr.tr hfk (by decide)
                      have hlen := hlk.trans hlen
                      have hsl := hsk.trans hsl
                      have h80 := hN80
                      have h87 := hN87
                      have h88 := hN88
                      have h93 := hN93
                      have h91 := hN91
                      have h92 := hN92
                      have h110 := hN110
                      have h111 := hN111
                      change ab_W _ _ _ G32 218 [some (vR 80), some (vz wh), some (vz (m_at + 4)), some (vz n22), none, none, none] [] _
                      refine ab_vret rfl d_MO_readName_218 ?_
                      rw [hQ]; exact (Or.inl ⟨_, _, _, _, _, _, _, _, _, _, _, _, _, _, _, _, _, _, _, _, _, _, rfl, hfr, hlen, hsl, h80, h87, h88, h93, h91, h92, h110, h111, ptrI_0, (by omega), (by first | exact hq56 | exact rgs_w hq56 (by omega)), (by first | exact hq57 | exact rgs_w hq57 (by omega)), (by first | exact hq58 | exact rgs_w hq58 (by omega)), (by first | exact hq59 | exact rgs_w hq59 (by omega)), (by first | exact hq60 | exact rgs_w hq60 (by omega))⟩)
                    · cases hv
                      have h84 := hfk.get h84 (by decide)
                      have h81 := hfk.get h81 (by decide)
                      have h82 := hfk.get h82 (by decide)
                      have ptrI_0 := pNtrI_0
                      have hfr := hfr.tr hfk (by decide)
                      have hlen := hlk.trans hlen
                      have hsl := hsk.trans hsl
                      have h80 := hN80
                      have h87 := hN87
                      have h88 := hN88
                      have h93 := hN93
                      have h91 := hN91
                      have h92 := hN92
                      have h110 := hN110
                      have h111 := hN111
                      change ab_W _ _ _ G32 218 [some (vR 80), some (vz wh), some (vz (m_at + 4)), some (vz n22), none, none, none] [] _
                      refine ab_vret rfl d_MO_readName_218 ?_
                      rw [hQ]; exact (Or.inr ⟨_, _, _, _, _, _, _, _, _, _, _, _, _, _, _, _, _, _, _, _, _, _, rfl, hfr, hlen, hsl, h80, h87, h88, h93, h91, h92, h110, h111, ptrI_0, (by omega), (by first | exact hq84 | exact rgs_w hq84 (by omega)), (by first | exact hq85 | exact rgs_w hq85 (by omega)), (by first | exact hq86 | exact rgs_w hq86 (by omega)), (by first | exact hq87 | exact rgs_w hq87 (by omega)), (by first | exact hq88 | exact rgs_w hq88 (by omega))⟩)
              · refine ab_aload_n d_MO_readName_77 rfl ?_
                refine zz_bipush d_MO_readName_78 (by decide) ?_
                refine ab_iload_n d_MO_readName_80 rfl ?_
                refine ab_callV (d' := d - 1) (as := [vz 10, vz wh]) (st := []) (r := _) (z_MO_wrong (o := o) (m_thrown := m_thrown) (m_taped := m_taped) (m_length := m_length) (m_out := m_out) (m_wide := m_wide) (m_gathered := m_gathered) (m_sets := m_sets) (m_ranges := m_ranges) (m_nodes := m_nodes) (m_at := m_at) (m_flags := m_flags) (m_fault := m_fault) (m_place := m_place) (m_numbered := m_numbered) (m_depth := m_depth) (m_value := m_value) (m_isNot := m_isNot) (m_least0 := m_least0) (m_most0 := m_most0) (m_slot := m_slot) (m_work := m_work) (m_got := m_got) (m_rowMany := m_rowMany) (m_charAt := m_charAt) (m_charWide := m_charWide) (m_trail := m_trail) (m_isMatch := m_isMatch) (m_matchGroups := m_matchGroups) (m_allFrom := m_allFrom) (m_allBefore := m_allBefore) (m_founds := m_founds) (m_pieces := m_pieces) (m_writtenMany := m_writtenMany) (m_templateWide := m_templateWide) (m_tooMuch := m_tooMuch) (x := 10) (y := wh) h80 (by omega) (by omega)) (fun oc G2 h => by rcases h with ⟨_, _, h, _⟩ <;> exact ⟨_, h⟩) (by omega) m_MO_wrong ml_MO_304 im_MO_wrong se_MO_wrong c_MO h80.2.2 (Nat.le_of_ble_eq_true rfl) d_MO_readName_81 rfl ?_
                intro v G89 hq
                rcases hq with ⟨f290, p291, hv, hfk, hlk, hsk, hN80, hq92⟩
                cases hv
                have h84 := hfk.get h84 (by decide)
                have h87 := hfk.get h87 (by decide)
                have h88 := hfk.get h88 (by decide)
                have h93 := hfk.get h93 (by decide)
                have h81 := hfk.get h81 (by decide)
                have h82 := hfk.get h82 (by decide)
                have h91 := hfk.get h91 (by decide)
                have h92 := hfk.get h92 (by decide)
                have h110 := hfk.get h110 (by decide)
                have h111 := hfk.get h111 (by decide)
                have ptrI_0 := trI.fr hfk ptrI_0 (by decide) (by decide) (by decide) (by decide) (by decide) (by decide) (by decide) (by decide) (by decide) (by decide) (by decide) (by decide) (by decide) (by decide) (by decide) (by decide) (by decide) (by decide)
                have hfr := hfr.tr hfk (by decide)
                have hlen := hlk.trans hlen
                have hsl := hsk.trans hsl
                have h80 := hN80
                change ab_W _ _ _ G89 84 [some (vR 80), some (vz wh), some (vz (m_at + 4)), some (vz n22), none, none, none] [] _
                refine ab_vret rfl d_MO_readName_84 ?_
                rw [hQ]; exact (Or.inr ⟨_, _, _, _, _, _, _, _, _, _, _, _, _, _, _, _, _, _, _, _, _, _, rfl, hfr, hlen, hsl, h80, h87, h88, h93, h91, h92, h110, h111, ptrI_0, (by omega), (by first | exact jmk | exact rgs_w jmk (by omega)), (by first | exact jrl | exact rgs_w jrl (by omega)), (by first | exact jrh | exact rgs_w jrh (by omega)), (by first | exact jns | exact rgs_w jns (by omega)), (by first | exact jnm | exact rgs_w jnm (by omega))⟩)
            · cases hv
              rw [hGe]
              change ab_W _ _ _ G1 72 [some (vR 80), some (vz wh), some (vz (m_at + 4)), some (vz n22), none, none, none] [vz (-1)] _
              refine zz_bipush d_MO_readName_72 (by decide) ?_
              refine zz_icmp_eq (tgt := 85) d_MO_readName_74 (by decide) (by decide) (by decide) (fun c93 => absurd c93 (by decide)) (fun c93 => ?_)
              refine ab_aload_n d_MO_readName_77 rfl ?_
              refine zz_bipush d_MO_readName_78 (by decide) ?_
              refine ab_iload_n d_MO_readName_80 rfl ?_
              refine ab_callV (d' := d - 1) (as := [vz 10, vz wh]) (st := []) (r := _) (z_MO_wrong (o := o) (m_thrown := m_thrown) (m_taped := m_taped) (m_length := m_length) (m_out := m_out) (m_wide := m_wide) (m_gathered := m_gathered) (m_sets := m_sets) (m_ranges := m_ranges) (m_nodes := m_nodes) (m_at := m_at) (m_flags := m_flags) (m_fault := m_fault) (m_place := m_place) (m_numbered := m_numbered) (m_depth := m_depth) (m_value := m_value) (m_isNot := m_isNot) (m_least0 := m_least0) (m_most0 := m_most0) (m_slot := m_slot) (m_work := m_work) (m_got := m_got) (m_rowMany := m_rowMany) (m_charAt := m_charAt) (m_charWide := m_charWide) (m_trail := m_trail) (m_isMatch := m_isMatch) (m_matchGroups := m_matchGroups) (m_allFrom := m_allFrom) (m_allBefore := m_allBefore) (m_founds := m_founds) (m_pieces := m_pieces) (m_writtenMany := m_writtenMany) (m_templateWide := m_templateWide) (m_tooMuch := m_tooMuch) (x := 10) (y := wh) h80 (by omega) (by omega)) (fun oc G2 h => by rcases h with ⟨_, _, h, _⟩ <;> exact ⟨_, h⟩) (by omega) m_MO_wrong ml_MO_304 im_MO_wrong se_MO_wrong c_MO h80.2.2 (Nat.le_of_ble_eq_true rfl) d_MO_readName_81 rfl ?_
              intro v G94 hq
              rcases hq with ⟨f295, p296, hv, hfk, hlk, hsk, hN80, hq97⟩
              cases hv
              have h84 := hfk.get h84 (by decide)
              have h87 := hfk.get h87 (by decide)
              have h88 := hfk.get h88 (by decide)
              have h93 := hfk.get h93 (by decide)
              have h81 := hfk.get h81 (by decide)
              have h82 := hfk.get h82 (by decide)
              have h91 := hfk.get h91 (by decide)
              have h92 := hfk.get h92 (by decide)
              have h110 := hfk.get h110 (by decide)
              have h111 := hfk.get h111 (by decide)
              have ptrI_0 := trI.fr hfk ptrI_0 (by decide) (by decide) (by decide) (by decide) (by decide) (by decide) (by decide) (by decide) (by decide) (by decide) (by decide) (by decide) (by decide) (by decide) (by decide) (by decide) (by decide) (by decide)
              have hfr := hfr.tr hfk (by decide)
              have hlen := hlk.trans hlen
              have hsl := hsk.trans hsl
              have h80 := hN80
              change ab_W _ _ _ G94 84 [some (vR 80), some (vz wh), some (vz (m_at + 4)), some (vz n22), none, none, none] [] _
              refine ab_vret rfl d_MO_readName_84 ?_
              rw [hQ]; exact (Or.inr ⟨_, _, _, _, _, _, _, _, _, _, _, _, _, _, _, _, _, _, _, _, _, _, rfl, hfr, hlen, hsl, h80, h87, h88, h93, h91, h92, h110, h111, ptrI_0, (by omega), (by first | exact jmk | exact rgs_w jmk (by omega)), (by first | exact jrl | exact rgs_w jrl (by omega)), (by first | exact jrh | exact rgs_w jrh (by omega)), (by first | exact jns | exact rgs_w jns (by omega)), (by first | exact jnm | exact rgs_w jnm (by omega))⟩)
    · cases hv
      rw [hGe]
      change ab_W _ _ _ G1 49 [some (vR 80), some (vz wh), some (vz (m_at + 4)), some (vz n22), none, none, none] [vz (-1)] _
      refine zz_bipush d_MO_readName_49 (by decide) ?_
      refine zz_icmp_ne (tgt := 77) d_MO_readName_51 (by decide) (by decide) (by decide) (fun c98 => ?_) (fun c98 => absurd c98 (by decide))
      refine ab_aload_n d_MO_readName_77 rfl ?_
      refine zz_bipush d_MO_readName_78 (by decide) ?_
      refine ab_iload_n d_MO_readName_80 rfl ?_
      refine ab_callV (d' := d - 1) (as := [vz 10, vz wh]) (st := []) (r := _) (z_MO_wrong (o := o) (m_thrown := m_thrown) (m_taped := m_taped) (m_length := m_length) (m_out := m_out) (m_wide := m_wide) (m_gathered := m_gathered) (m_sets := m_sets) (m_ranges := m_ranges) (m_nodes := m_nodes) (m_at := m_at) (m_flags := m_flags) (m_fault := m_fault) (m_place := m_place) (m_numbered := m_numbered) (m_depth := m_depth) (m_value := m_value) (m_isNot := m_isNot) (m_least0 := m_least0) (m_most0 := m_most0) (m_slot := m_slot) (m_work := m_work) (m_got := m_got) (m_rowMany := m_rowMany) (m_charAt := m_charAt) (m_charWide := m_charWide) (m_trail := m_trail) (m_isMatch := m_isMatch) (m_matchGroups := m_matchGroups) (m_allFrom := m_allFrom) (m_allBefore := m_allBefore) (m_founds := m_founds) (m_pieces := m_pieces) (m_writtenMany := m_writtenMany) (m_templateWide := m_templateWide) (m_tooMuch := m_tooMuch) (x := 10) (y := wh) h80 (by omega) (by omega)) (fun oc G2 h => by rcases h with ⟨_, _, h, _⟩ <;> exact ⟨_, h⟩) (by omega) m_MO_wrong ml_MO_304 im_MO_wrong se_MO_wrong c_MO h80.2.2 (Nat.le_of_ble_eq_true rfl) d_MO_readName_81 rfl ?_
      intro v G99 hq
      rcases hq with ⟨f2100, p2101, hv, hfk, hlk, hsk, hN80, hq102⟩
      cases hv
      have h84 := hfk.get h84 (by decide)
      have h87 := hfk.get h87 (by decide)
      have h88 := hfk.get h88 (by decide)
      have h93 := hfk.get h93 (by decide)
      have h81 := hfk.get h81 (by decide)
      have h82 := hfk.get h82 (by decide)
      have h91 := hfk.get h91 (by decide)
      have h92 := hfk.get h92 (by decide)
      have h110 := hfk.get h110 (by decide)
      have h111 := hfk.get h111 (by decide)
      have ptrI_0 := trI.fr hfk ptrI_0 (by decide) (by decide) (by decide) (by decide) (by decide) (by decide) (by decide) (by decide) (by decide) (by decide) (by decide) (by decide) (by decide) (by decide) (by decide) (by decide) (by decide) (by decide)
      have hfr := hfr.tr hfk (by decide)
      have hlen := hlk.trans hlen
      have hsl := hsk.trans hsl
      have h80 := hN80
      change ab_W _ _ _ G99 84 [some (vR 80), some (vz wh), some (vz (m_at + 4)), some (vz n22), none, none, none] [] _
      refine ab_vret rfl d_MO_readName_84 ?_
      rw [hQ]; exact (Or.inr ⟨_, _, _, _, _, _, _, _, _, _, _, _, _, _, _, _, _, _, _, _, _, _, rfl, hfr, hlen, hsl, h80, h87, h88, h93, h91, h92, h110, h111, ptrI_0, (by omega), (by first | exact jmk | exact rgs_w jmk (by omega)), (by first | exact jrl | exact rgs_w jrl (by omega)), (by first | exact jrh | exact rgs_w jrh (by omega)), (by first | exact jns | exact rgs_w jns (by omega)), (by first | exact jnm | exact rgs_w jnm (by omega))⟩)
set_option maxRecDepth 100000 in
set_option maxHeartbeats 4000000 in
theorem y_MO_readGroup_56 {X : ab_X} {d : Nat} {Q : Outcome → ab_G → Prop} {o : Nat → Nat} {G0 : ab_G} {m_thrown : Int} {m_taped : Int} {m_length : Int} {m_out : Int} {m_wide : Int} {m_gathered : Int} {m_sets : Int} {m_ranges : Int} {m_nodes : Int} {m_at : Int} {m_flags : Int} {m_fault : Int} {m_place : Int} {m_numbered : Int} {m_depth : Int} {m_value : Int} {m_isNot : Int} {m_least0 : Int} {m_most0 : Int} {m_slot : Int} {m_work : Int} {m_got : Int} {m_rowMany : Int} {m_charAt : Int} {m_charWide : Int} {m_trail : Int} {m_isMatch : Int} {m_matchGroups : Int} {m_allFrom : Int} {m_allBefore : Int} {m_founds : Int} {m_pieces : Int} {m_writtenMany : Int} {m_templateWide : Int} {m_tooMuch : Int} {A_tape : Int → Int} {wh : Int} (cta : 0 ≤ m_taped ∧ m_taped ≤ 2000) (jtp : rgs A_tape 2000 0 255) (cat : 0 ≤ m_at ∧ m_at < m_taped) (hd : 1 ≤ d) : ∀ (mz : Nat) {G : ab_G} {nw : Int} {k : Int}, (cc o G 80 280 (ab_ob 12 (mof m_thrown m_taped m_length m_out m_wide m_gathered m_sets m_ranges m_nodes m_at m_flags m_fault m_place m_numbered m_depth m_value m_isNot m_least0 m_most0 m_slot m_work m_got m_rowMany m_charAt m_charWide m_trail m_isMatch m_matchGroups m_allFrom m_allBefore m_founds m_pieces m_writtenMany m_templateWide m_tooMuch))) → (cc o G 84 284 (za 2000 A_tape)) → (2 ≤ k ∧ m_at + k ≤ m_taped ∧ -2147483648 ≤ nw ∧ nw ≤ 2147483647) → (fx o o [] G0 G) → (G.length = G0.length) → (ab_slots G = ab_slots G0) → (Int.toNat (m_taped - m_at - k) < mz) → (∀ (G2 : ab_G) (nw2 : Int) (k2 : Int), (2 ≤ k2 ∧ m_at + k2 ≤ m_taped ∧ -2147483648 ≤ nw2 ∧ nw2 ≤ 2147483647) → (fx o o [] G0 G2) → (G2.length = G0.length) → (ab_slots G2 = ab_slots G0) → ab_W X (ab_pl y_MO_readGroup b_MO_readGroup 5 none) d G2 84 [some (vR 80), some (vz wh), some (vz nw2), some (vz k2), none] [] Q) → ab_W X (ab_pl y_MO_readGroup b_MO_readGroup 5 none) d G 56 [some (vR 80), some (vz wh), some (vz nw), some (vz k), none] [] Q := by
  intro mz
  induction mz with
  | zero => intro G nw k h80 h84 ci hfr hlen hsl hm hk0; exact absurd hm (Nat.not_lt_zero _)
  | succ mz ih =>
    intro G nw k h80 h84 ci hfr hlen hsl hm hk0
    refine ab_aload_n d_MO_readGroup_56 rfl ?_
    refine ab_iload_n d_MO_readGroup_57 rfl ?_
    refine ab_callV (d' := d - 1) (as := [vz k]) (st := []) (r := _) (z_MO_here (o := o) (m_thrown := m_thrown) (m_taped := m_taped) (m_length := m_length) (m_out := m_out) (m_wide := m_wide) (m_gathered := m_gathered) (m_sets := m_sets) (m_ranges := m_ranges) (m_nodes := m_nodes) (m_at := m_at) (m_flags := m_flags) (m_fault := m_fault) (m_place := m_place) (m_numbered := m_numbered) (m_depth := m_depth) (m_value := m_value) (m_isNot := m_isNot) (m_least0 := m_least0) (m_most0 := m_most0) (m_slot := m_slot) (m_work := m_work) (m_got := m_got) (m_rowMany := m_rowMany) (m_charAt := m_charAt) (m_charWide := m_charWide) (m_trail := m_trail) (m_isMatch := m_isMatch) (m_matchGroups := m_matchGroups) (m_allFrom := m_allFrom) (m_allBefore := m_allBefore) (m_founds := m_founds) (m_pieces := m_pieces) (m_writtenMany := m_writtenMany) (m_templateWide := m_templateWide) (m_tooMuch := m_tooMuch) (A_tape := A_tape) (k := k) h80 h84 (by omega) (by omega) jtp (by omega)) (fun oc G2 h => by rcases h with ⟨h, _⟩ | ⟨h, _⟩ <;> exact ⟨_, h⟩) (by omega) m_MO_here ml_MO_297 im_MO_here se_MO_here c_MO h80.2.2 (Nat.le_of_ble_eq_true rfl) d_MO_readGroup_58 rfl ?_
    intro v G1 hq
    rcases hq with ⟨hv, hGe, hq2⟩ | ⟨hv, hGe, hq3⟩
    · cases hv
      rw [hGe]
      change ab_W _ _ _ G 61 [some (vR 80), some (vz wh), some (vz nw), some (vz k), none] [vz (A_tape (m_at + k))] _
      refine ab_callS (d' := d - 1) (as := [vz (A_tape (m_at + k))]) (st := []) (z_MO_flagOf (o := o) (c := (A_tape (m_at + k))) (by omega)) (fun oc G2 h => by rcases h with ⟨_, h, _⟩ <;> exact ⟨_, h⟩) (by omega) m_MO_flagOf ml_MO_389 st_MO_flagOf (Nat.le_of_ble_eq_true rfl) d_MO_readGroup_61 rfl ?_
      intro v G4 hq
      rcases hq with ⟨v5, hv, hGe, hq6, hq7, hq8⟩
      cases hv
      rw [hGe]
      change ab_W _ _ _ G 64 [some (vR 80), some (vz wh), some (vz nw), some (vz k), none] [vz v5] _
      refine zz_if_le (tgt := 84) d_MO_readGroup_64 (by decide) (by omega) (fun c9 => ?_) (fun c9 => ?_)
      · exact hk0 _ _ _ (by omega) hfr hlen hsl
      · refine ab_iload_n d_MO_readGroup_67 rfl ?_
        refine ab_aload_n d_MO_readGroup_68 rfl ?_
        refine ab_iload_n d_MO_readGroup_69 rfl ?_
        refine ab_callV (d' := d - 1) (as := [vz k]) (st := [vz nw]) (r := _) (z_MO_here (o := o) (m_thrown := m_thrown) (m_taped := m_taped) (m_length := m_length) (m_out := m_out) (m_wide := m_wide) (m_gathered := m_gathered) (m_sets := m_sets) (m_ranges := m_ranges) (m_nodes := m_nodes) (m_at := m_at) (m_flags := m_flags) (m_fault := m_fault) (m_place := m_place) (m_numbered := m_numbered) (m_depth := m_depth) (m_value := m_value) (m_isNot := m_isNot) (m_least0 := m_least0) (m_most0 := m_most0) (m_slot := m_slot) (m_work := m_work) (m_got := m_got) (m_rowMany := m_rowMany) (m_charAt := m_charAt) (m_charWide := m_charWide) (m_trail := m_trail) (m_isMatch := m_isMatch) (m_matchGroups := m_matchGroups) (m_allFrom := m_allFrom) (m_allBefore := m_allBefore) (m_founds := m_founds) (m_pieces := m_pieces) (m_writtenMany := m_writtenMany) (m_templateWide := m_templateWide) (m_tooMuch := m_tooMuch) (A_tape := A_tape) (k := k) h80 h84 (by omega) (by omega) jtp (by omega)) (fun oc G2 h => by rcases h with ⟨h, _⟩ | ⟨h, _⟩ <;> exact ⟨_, h⟩) (by omega) m_MO_here ml_MO_297 im_MO_here se_MO_here c_MO h80.2.2 (Nat.le_of_ble_eq_true rfl) d_MO_readGroup_70 rfl ?_
        intro v G10 hq
        rcases hq with ⟨hv, hGe, hq11⟩ | ⟨hv, hGe, hq12⟩
        · cases hv
          rw [hGe]
          change ab_W _ _ _ G 73 [some (vR 80), some (vz wh), some (vz nw), some (vz k), none] [vz (A_tape (m_at + k)), vz nw] _
          refine ab_callS (d' := d - 1) (as := [vz (A_tape (m_at + k))]) (st := [vz nw]) (z_MO_flagOf (o := o) (c := (A_tape (m_at + k))) (by omega)) (fun oc G2 h => by rcases h with ⟨_, h, _⟩ <;> exact ⟨_, h⟩) (by omega) m_MO_flagOf ml_MO_389 st_MO_flagOf (Nat.le_of_ble_eq_true rfl) d_MO_readGroup_73 rfl ?_
          intro v G13 hq
          rcases hq with ⟨v14, hv, hGe, hq15, hq16, hq17⟩
          cases hv
          rw [hGe]
          change ab_W _ _ _ G 76 [some (vR 80), some (vz wh), some (vz nw), some (vz k), none] [vz v14, vz nw] _
          refine ab_ior d_MO_readGroup_76 ?_
          obtain ⟨v18, hv18, ev18⟩ := z_ex (Int32.ofInt nw ||| Int32.ofInt v14)
          refine ab_topi ev18 ?_
          change ab_W _ _ _ G 77 [some (vR 80), some (vz wh), some (vz nw), some (vz k), none] [vz v18] _
          refine ab_istore_n d_MO_readGroup_77 (Nat.le_of_ble_eq_true rfl) (Nat.le_of_ble_eq_true rfl) rfl ?_
          change ab_W _ _ _ G 78 [some (vR 80), some (vz wh), some (vz v18), some (vz k), none] [] _
          refine zz_iinc d_MO_readGroup_78 rfl (Nat.le_of_ble_eq_true rfl) (Nat.le_of_ble_eq_true rfl) rfl ?_
          change ab_W _ _ _ G 81 [some (vR 80), some (vz wh), some (vz v18), some (vz (k + 1)), none] [] _
          refine ab_goto (tgt := 56) d_MO_readGroup_81 (by decide) ?_
          exact ih (nw := v18) (k := (k + 1)) h80 h84 (by omega) hfr hlen hsl (by omega) hk0
        · cases hv
          rw [hGe]
          change ab_W _ _ _ G 73 [some (vR 80), some (vz wh), some (vz nw), some (vz k), none] [vz (-1), vz nw] _
          exfalso; omega
    · cases hv
      rw [hGe]
      change ab_W _ _ _ G 61 [some (vR 80), some (vz wh), some (vz nw), some (vz k), none] [vz (-1)] _
      refine ab_callS (d' := d - 1) (as := [vz (-1)]) (st := []) (z_MO_flagOf (o := o) (c := (-1)) (by omega)) (fun oc G2 h => by rcases h with ⟨_, h, _⟩ <;> exact ⟨_, h⟩) (by omega) m_MO_flagOf ml_MO_389 st_MO_flagOf (Nat.le_of_ble_eq_true rfl) d_MO_readGroup_61 rfl ?_
      intro v G19 hq
      rcases hq with ⟨v20, hv, hGe, hq21, hq22, hq23⟩
      cases hv
      rw [hGe]
      change ab_W _ _ _ G 64 [some (vR 80), some (vz wh), some (vz nw), some (vz k), none] [vz v20] _
      refine zz_if_le (tgt := 84) d_MO_readGroup_64 (by decide) (by omega) (fun c24 => ?_) (fun c24 => ?_)
      · exact hk0 _ _ _ (by omega) hfr hlen hsl
      · refine ab_iload_n d_MO_readGroup_67 rfl ?_
        refine ab_aload_n d_MO_readGroup_68 rfl ?_
        refine ab_iload_n d_MO_readGroup_69 rfl ?_
        refine ab_callV (d' := d - 1) (as := [vz k]) (st := [vz nw]) (r := _) (z_MO_here (o := o) (m_thrown := m_thrown) (m_taped := m_taped) (m_length := m_length) (m_out := m_out) (m_wide := m_wide) (m_gathered := m_gathered) (m_sets := m_sets) (m_ranges := m_ranges) (m_nodes := m_nodes) (m_at := m_at) (m_flags := m_flags) (m_fault := m_fault) (m_place := m_place) (m_numbered := m_numbered) (m_depth := m_depth) (m_value := m_value) (m_isNot := m_isNot) (m_least0 := m_least0) (m_most0 := m_most0) (m_slot := m_slot) (m_work := m_work) (m_got := m_got) (m_rowMany := m_rowMany) (m_charAt := m_charAt) (m_charWide := m_charWide) (m_trail := m_trail) (m_isMatch := m_isMatch) (m_matchGroups := m_matchGroups) (m_allFrom := m_allFrom) (m_allBefore := m_allBefore) (m_founds := m_founds) (m_pieces := m_pieces) (m_writtenMany := m_writtenMany) (m_templateWide := m_templateWide) (m_tooMuch := m_tooMuch) (A_tape := A_tape) (k := k) h80 h84 (by omega) (by omega) jtp (by omega)) (fun oc G2 h => by rcases h with ⟨h, _⟩ | ⟨h, _⟩ <;> exact ⟨_, h⟩) (by omega) m_MO_here ml_MO_297 im_MO_here se_MO_here c_MO h80.2.2 (Nat.le_of_ble_eq_true rfl) d_MO_readGroup_70 rfl ?_
        intro v G25 hq
        rcases hq with ⟨hv, hGe, hq26⟩ | ⟨hv, hGe, hq27⟩
        · cases hv
          rw [hGe]
          change ab_W _ _ _ G 73 [some (vR 80), some (vz wh), some (vz nw), some (vz k), none] [vz (A_tape (m_at + k)), vz nw] _
          exfalso; omega
        · cases hv
          rw [hGe]
          change ab_W _ _ _ G 73 [some (vR 80), some (vz wh), some (vz nw), some (vz k), none] [vz (-1), vz nw] _
          refine ab_callS (d' := d - 1) (as := [vz (-1)]) (st := [vz nw]) (z_MO_flagOf (o := o) (c := (-1)) (by omega)) (fun oc G2 h => by rcases h with ⟨_, h, _⟩ <;> exact ⟨_, h⟩) (by omega) m_MO_flagOf ml_MO_389 st_MO_flagOf (Nat.le_of_ble_eq_true rfl) d_MO_readGroup_73 rfl ?_
          intro v G28 hq
          rcases hq with ⟨v29, hv, hGe, hq30, hq31, hq32⟩
          cases hv
          rw [hGe]
          change ab_W _ _ _ G 76 [some (vR 80), some (vz wh), some (vz nw), some (vz k), none] [vz v29, vz nw] _
          refine ab_ior d_MO_readGroup_76 ?_
          obtain ⟨v33, hv33, ev33⟩ := z_ex (Int32.ofInt nw ||| Int32.ofInt v29)
          refine ab_topi ev33 ?_
          change ab_W _ _ _ G 77 [some (vR 80), some (vz wh), some (vz nw), some (vz k), none] [vz v33] _
          refine ab_istore_n d_MO_readGroup_77 (Nat.le_of_ble_eq_true rfl) (Nat.le_of_ble_eq_true rfl) rfl ?_
          change ab_W _ _ _ G 78 [some (vR 80), some (vz wh), some (vz v33), some (vz k), none] [] _
          refine zz_iinc d_MO_readGroup_78 rfl (Nat.le_of_ble_eq_true rfl) (Nat.le_of_ble_eq_true rfl) rfl ?_
          change ab_W _ _ _ G 81 [some (vR 80), some (vz wh), some (vz v33), some (vz (k + 1)), none] [] _
          refine ab_goto (tgt := 56) d_MO_readGroup_81 (by decide) ?_
          exact ih (nw := v33) (k := (k + 1)) h80 h84 (by omega) hfr hlen hsl (by omega) hk0
set_option maxRecDepth 100000 in
set_option maxHeartbeats 4000000 in
theorem y_MO_readGroup_115 {X : ab_X} {d : Nat} {Q : Outcome → ab_G → Prop} {o : Nat → Nat} {G0 : ab_G} {m_thrown : Int} {m_taped : Int} {m_length : Int} {m_out : Int} {m_wide : Int} {m_gathered : Int} {m_sets : Int} {m_ranges : Int} {m_nodes : Int} {m_at : Int} {m_flags : Int} {m_fault : Int} {m_place : Int} {m_numbered : Int} {m_depth : Int} {m_value : Int} {m_isNot : Int} {m_least0 : Int} {m_most0 : Int} {m_slot : Int} {m_work : Int} {m_got : Int} {m_rowMany : Int} {m_charAt : Int} {m_charWide : Int} {m_trail : Int} {m_isMatch : Int} {m_matchGroups : Int} {m_allFrom : Int} {m_allBefore : Int} {m_founds : Int} {m_pieces : Int} {m_writtenMany : Int} {m_templateWide : Int} {m_tooMuch : Int} {A_tape : Int → Int} {wh : Int} (cta : 0 ≤ m_taped ∧ m_taped ≤ 2000) (jtp : rgs A_tape 2000 0 255) (cat : 0 ≤ m_at ∧ m_at < m_taped) (hd : 1 ≤ d) : ∀ (mz : Nat) {G : ab_G} {nw : Int} {k : Int}, (cc o G 80 280 (ab_ob 12 (mof m_thrown m_taped m_length m_out m_wide m_gathered m_sets m_ranges m_nodes m_at m_flags m_fault m_place m_numbered m_depth m_value m_isNot m_least0 m_most0 m_slot m_work m_got m_rowMany m_charAt m_charWide m_trail m_isMatch m_matchGroups m_allFrom m_allBefore m_founds m_pieces m_writtenMany m_templateWide m_tooMuch))) → (cc o G 84 284 (za 2000 A_tape)) → (2 ≤ k ∧ m_at + k ≤ m_taped ∧ -2147483648 ≤ nw ∧ nw ≤ 2147483647) → (fx o o [] G0 G) → (G.length = G0.length) → (ab_slots G = ab_slots G0) → (Int.toNat (m_taped - m_at - k) < mz) → (∀ (G2 : ab_G) (nw2 : Int) (k2 : Int), (2 ≤ k2 ∧ m_at + k2 ≤ m_taped ∧ -2147483648 ≤ nw2 ∧ nw2 ≤ 2147483647) → (fx o o [] G0 G2) → (G2.length = G0.length) → (ab_slots G2 = ab_slots G0) → ab_W X (ab_pl y_MO_readGroup b_MO_readGroup 5 none) d G2 145 [some (vR 80), some (vz wh), some (vz nw2), some (vz k2), none] [] Q) → ab_W X (ab_pl y_MO_readGroup b_MO_readGroup 5 none) d G 115 [some (vR 80), some (vz wh), some (vz nw), some (vz k), none] [] Q := by
  intro mz
  induction mz with
  | zero => intro G nw k h80 h84 ci hfr hlen hsl hm hk0; exact absurd hm (Nat.not_lt_zero _)
  | succ mz ih =>
    intro G nw k h80 h84 ci hfr hlen hsl hm hk0
    refine ab_aload_n d_MO_readGroup_115 rfl ?_
    refine ab_iload_n d_MO_readGroup_116 rfl ?_
    refine ab_callV (d' := d - 1) (as := [vz k]) (st := []) (r := _) (z_MO_here (o := o) (m_thrown := m_thrown) (m_taped := m_taped) (m_length := m_length) (m_out := m_out) (m_wide := m_wide) (m_gathered := m_gathered) (m_sets := m_sets) (m_ranges := m_ranges) (m_nodes := m_nodes) (m_at := m_at) (m_flags := m_flags) (m_fault := m_fault) (m_place := m_place) (m_numbered := m_numbered) (m_depth := m_depth) (m_value := m_value) (m_isNot := m_isNot) (m_least0 := m_least0) (m_most0 := m_most0) (m_slot := m_slot) (m_work := m_work) (m_got := m_got) (m_rowMany := m_rowMany) (m_charAt := m_charAt) (m_charWide := m_charWide) (m_trail := m_trail) (m_isMatch := m_isMatch) (m_matchGroups := m_matchGroups) (m_allFrom := m_allFrom) (m_allBefore := m_allBefore) (m_founds := m_founds) (m_pieces := m_pieces) (m_writtenMany := m_writtenMany) (m_templateWide := m_templateWide) (m_tooMuch := m_tooMuch) (A_tape := A_tape) (k := k) h80 h84 (by omega) (by omega) jtp (by omega)) (fun oc G2 h => by rcases h with ⟨h, _⟩ | ⟨h, _⟩ <;> exact ⟨_, h⟩) (by omega) m_MO_here ml_MO_297 im_MO_here se_MO_here c_MO h80.2.2 (Nat.le_of_ble_eq_true rfl) d_MO_readGroup_117 rfl ?_
    intro v G1 hq
    rcases hq with ⟨hv, hGe, hq2⟩ | ⟨hv, hGe, hq3⟩
    · cases hv
      rw [hGe]
      change ab_W _ _ _ G 120 [some (vR 80), some (vz wh), some (vz nw), some (vz k), none] [vz (A_tape (m_at + k))] _
      refine ab_callS (d' := d - 1) (as := [vz (A_tape (m_at + k))]) (st := []) (z_MO_flagOf (o := o) (c := (A_tape (m_at + k))) (by omega)) (fun oc G2 h => by rcases h with ⟨_, h, _⟩ <;> exact ⟨_, h⟩) (by omega) m_MO_flagOf ml_MO_389 st_MO_flagOf (Nat.le_of_ble_eq_true rfl) d_MO_readGroup_120 rfl ?_
      intro v G4 hq
      rcases hq with ⟨v5, hv, hGe, hq6, hq7, hq8⟩
      cases hv
      rw [hGe]
      change ab_W _ _ _ G 123 [some (vR 80), some (vz wh), some (vz nw), some (vz k), none] [vz v5] _
      refine zz_if_le (tgt := 145) d_MO_readGroup_123 (by decide) (by omega) (fun c9 => ?_) (fun c9 => ?_)
      · exact hk0 _ _ _ (by omega) hfr hlen hsl
      · refine ab_iload_n d_MO_readGroup_126 rfl ?_
        refine ab_aload_n d_MO_readGroup_127 rfl ?_
        refine ab_iload_n d_MO_readGroup_128 rfl ?_
        refine ab_callV (d' := d - 1) (as := [vz k]) (st := [vz nw]) (r := _) (z_MO_here (o := o) (m_thrown := m_thrown) (m_taped := m_taped) (m_length := m_length) (m_out := m_out) (m_wide := m_wide) (m_gathered := m_gathered) (m_sets := m_sets) (m_ranges := m_ranges) (m_nodes := m_nodes) (m_at := m_at) (m_flags := m_flags) (m_fault := m_fault) (m_place := m_place) (m_numbered := m_numbered) (m_depth := m_depth) (m_value := m_value) (m_isNot := m_isNot) (m_least0 := m_least0) (m_most0 := m_most0) (m_slot := m_slot) (m_work := m_work) (m_got := m_got) (m_rowMany := m_rowMany) (m_charAt := m_charAt) (m_charWide := m_charWide) (m_trail := m_trail) (m_isMatch := m_isMatch) (m_matchGroups := m_matchGroups) (m_allFrom := m_allFrom) (m_allBefore := m_allBefore) (m_founds := m_founds) (m_pieces := m_pieces) (m_writtenMany := m_writtenMany) (m_templateWide := m_templateWide) (m_tooMuch := m_tooMuch) (A_tape := A_tape) (k := k) h80 h84 (by omega) (by omega) jtp (by omega)) (fun oc G2 h => by rcases h with ⟨h, _⟩ | ⟨h, _⟩ <;> exact ⟨_, h⟩) (by omega) m_MO_here ml_MO_297 im_MO_here se_MO_here c_MO h80.2.2 (Nat.le_of_ble_eq_true rfl) d_MO_readGroup_129 rfl ?_
        intro v G10 hq
        rcases hq with ⟨hv, hGe, hq11⟩ | ⟨hv, hGe, hq12⟩
        · cases hv
          rw [hGe]
          change ab_W _ _ _ G 132 [some (vR 80), some (vz wh), some (vz nw), some (vz k), none] [vz (A_tape (m_at + k)), vz nw] _
          refine ab_callS (d' := d - 1) (as := [vz (A_tape (m_at + k))]) (st := [vz nw]) (z_MO_flagOf (o := o) (c := (A_tape (m_at + k))) (by omega)) (fun oc G2 h => by rcases h with ⟨_, h, _⟩ <;> exact ⟨_, h⟩) (by omega) m_MO_flagOf ml_MO_389 st_MO_flagOf (Nat.le_of_ble_eq_true rfl) d_MO_readGroup_132 rfl ?_
          intro v G13 hq
          rcases hq with ⟨v14, hv, hGe, hq15, hq16, hq17⟩
          cases hv
          rw [hGe]
          change ab_W _ _ _ G 135 [some (vR 80), some (vz wh), some (vz nw), some (vz k), none] [vz v14, vz nw] _
          refine zz_iconst d_MO_readGroup_135 ?_
          refine ab_ixor d_MO_readGroup_136 ?_
          refine ab_iand d_MO_readGroup_137 ?_
          obtain ⟨v18, hv18, ev18⟩ := z_ex (Int32.ofInt nw &&& (Int32.ofInt v14 ^^^ Int32.ofInt (-1)))
          refine ab_topi ev18 ?_
          change ab_W _ _ _ G 138 [some (vR 80), some (vz wh), some (vz nw), some (vz k), none] [vz v18] _
          refine ab_istore_n d_MO_readGroup_138 (Nat.le_of_ble_eq_true rfl) (Nat.le_of_ble_eq_true rfl) rfl ?_
          change ab_W _ _ _ G 139 [some (vR 80), some (vz wh), some (vz v18), some (vz k), none] [] _
          refine zz_iinc d_MO_readGroup_139 rfl (Nat.le_of_ble_eq_true rfl) (Nat.le_of_ble_eq_true rfl) rfl ?_
          change ab_W _ _ _ G 142 [some (vR 80), some (vz wh), some (vz v18), some (vz (k + 1)), none] [] _
          refine ab_goto (tgt := 115) d_MO_readGroup_142 (by decide) ?_
          exact ih (nw := v18) (k := (k + 1)) h80 h84 (by omega) hfr hlen hsl (by omega) hk0
        · cases hv
          rw [hGe]
          change ab_W _ _ _ G 132 [some (vR 80), some (vz wh), some (vz nw), some (vz k), none] [vz (-1), vz nw] _
          exfalso; omega
    · cases hv
      rw [hGe]
      change ab_W _ _ _ G 120 [some (vR 80), some (vz wh), some (vz nw), some (vz k), none] [vz (-1)] _
      refine ab_callS (d' := d - 1) (as := [vz (-1)]) (st := []) (z_MO_flagOf (o := o) (c := (-1)) (by omega)) (fun oc G2 h => by rcases h with ⟨_, h, _⟩ <;> exact ⟨_, h⟩) (by omega) m_MO_flagOf ml_MO_389 st_MO_flagOf (Nat.le_of_ble_eq_true rfl) d_MO_readGroup_120 rfl ?_
      intro v G19 hq
      rcases hq with ⟨v20, hv, hGe, hq21, hq22, hq23⟩
      cases hv
      rw [hGe]
      change ab_W _ _ _ G 123 [some (vR 80), some (vz wh), some (vz nw), some (vz k), none] [vz v20] _
      refine zz_if_le (tgt := 145) d_MO_readGroup_123 (by decide) (by omega) (fun c24 => ?_) (fun c24 => ?_)
      · exact hk0 _ _ _ (by omega) hfr hlen hsl
      · refine ab_iload_n d_MO_readGroup_126 rfl ?_
        refine ab_aload_n d_MO_readGroup_127 rfl ?_
        refine ab_iload_n d_MO_readGroup_128 rfl ?_
        refine ab_callV (d' := d - 1) (as := [vz k]) (st := [vz nw]) (r := _) (z_MO_here (o := o) (m_thrown := m_thrown) (m_taped := m_taped) (m_length := m_length) (m_out := m_out) (m_wide := m_wide) (m_gathered := m_gathered) (m_sets := m_sets) (m_ranges := m_ranges) (m_nodes := m_nodes) (m_at := m_at) (m_flags := m_flags) (m_fault := m_fault) (m_place := m_place) (m_numbered := m_numbered) (m_depth := m_depth) (m_value := m_value) (m_isNot := m_isNot) (m_least0 := m_least0) (m_most0 := m_most0) (m_slot := m_slot) (m_work := m_work) (m_got := m_got) (m_rowMany := m_rowMany) (m_charAt := m_charAt) (m_charWide := m_charWide) (m_trail := m_trail) (m_isMatch := m_isMatch) (m_matchGroups := m_matchGroups) (m_allFrom := m_allFrom) (m_allBefore := m_allBefore) (m_founds := m_founds) (m_pieces := m_pieces) (m_writtenMany := m_writtenMany) (m_templateWide := m_templateWide) (m_tooMuch := m_tooMuch) (A_tape := A_tape) (k := k) h80 h84 (by omega) (by omega) jtp (by omega)) (fun oc G2 h => by rcases h with ⟨h, _⟩ | ⟨h, _⟩ <;> exact ⟨_, h⟩) (by omega) m_MO_here ml_MO_297 im_MO_here se_MO_here c_MO h80.2.2 (Nat.le_of_ble_eq_true rfl) d_MO_readGroup_129 rfl ?_
        intro v G25 hq
        rcases hq with ⟨hv, hGe, hq26⟩ | ⟨hv, hGe, hq27⟩
        · cases hv
          rw [hGe]
          change ab_W _ _ _ G 132 [some (vR 80), some (vz wh), some (vz nw), some (vz k), none] [vz (A_tape (m_at + k)), vz nw] _
          exfalso; omega
        · cases hv
          rw [hGe]
          change ab_W _ _ _ G 132 [some (vR 80), some (vz wh), some (vz nw), some (vz k), none] [vz (-1), vz nw] _
          refine ab_callS (d' := d - 1) (as := [vz (-1)]) (st := [vz nw]) (z_MO_flagOf (o := o) (c := (-1)) (by omega)) (fun oc G2 h => by rcases h with ⟨_, h, _⟩ <;> exact ⟨_, h⟩) (by omega) m_MO_flagOf ml_MO_389 st_MO_flagOf (Nat.le_of_ble_eq_true rfl) d_MO_readGroup_132 rfl ?_
          intro v G28 hq
          rcases hq with ⟨v29, hv, hGe, hq30, hq31, hq32⟩
          cases hv
          rw [hGe]
          change ab_W _ _ _ G 135 [some (vR 80), some (vz wh), some (vz nw), some (vz k), none] [vz v29, vz nw] _
          refine zz_iconst d_MO_readGroup_135 ?_
          refine ab_ixor d_MO_readGroup_136 ?_
          refine ab_iand d_MO_readGroup_137 ?_
          obtain ⟨v33, hv33, ev33⟩ := z_ex (Int32.ofInt nw &&& (Int32.ofInt v29 ^^^ Int32.ofInt (-1)))
          refine ab_topi ev33 ?_
          change ab_W _ _ _ G 138 [some (vR 80), some (vz wh), some (vz nw), some (vz k), none] [vz v33] _
          refine ab_istore_n d_MO_readGroup_138 (Nat.le_of_ble_eq_true rfl) (Nat.le_of_ble_eq_true rfl) rfl ?_
          change ab_W _ _ _ G 139 [some (vR 80), some (vz wh), some (vz v33), some (vz k), none] [] _
          refine zz_iinc d_MO_readGroup_139 rfl (Nat.le_of_ble_eq_true rfl) (Nat.le_of_ble_eq_true rfl) rfl ?_
          change ab_W _ _ _ G 142 [some (vR 80), some (vz wh), some (vz v33), some (vz (k + 1)), none] [] _
          refine ab_goto (tgt := 115) d_MO_readGroup_142 (by decide) ?_
          exact ih (nw := v33) (k := (k + 1)) h80 h84 (by omega) hfr hlen hsl (by omega) hk0
set_option maxRecDepth 100000 in
set_option maxHeartbeats 4000000 in
theorem z_MO_readGroup {X : ab_X} {d : Nat} {o : Nat → Nat} {G : ab_G} {m_thrown : Int} {m_taped : Int} {m_length : Int} {m_out : Int} {m_wide : Int} {m_gathered : Int} {m_sets : Int} {m_ranges : Int} {m_nodes : Int} {m_at : Int} {m_flags : Int} {m_fault : Int} {m_place : Int} {m_numbered : Int} {m_depth : Int} {m_value : Int} {m_isNot : Int} {m_least0 : Int} {m_most0 : Int} {m_slot : Int} {m_work : Int} {m_got : Int} {m_rowMany : Int} {m_charAt : Int} {m_charWide : Int} {m_trail : Int} {m_isMatch : Int} {m_matchGroups : Int} {m_allFrom : Int} {m_allBefore : Int} {m_founds : Int} {m_pieces : Int} {m_writtenMany : Int} {m_templateWide : Int} {m_tooMuch : Int} {A_tape : Int → Int} {LO : Int → Int} {HI : Int → Int} {MK : Int → Int} {RL : Int → Int} {RH : Int → Int} {NS : Int → Int} {NM : Int → Int} (h80 : cc o G 80 280 (ab_ob 12 (mof m_thrown m_taped m_length m_out m_wide m_gathered m_sets m_ranges m_nodes m_at m_flags m_fault m_place m_numbered m_depth m_value m_isNot m_least0 m_most0 m_slot m_work m_got m_rowMany m_charAt m_charWide m_trail m_isMatch m_matchGroups m_allFrom m_allBefore m_founds m_pieces m_writtenMany m_templateWide m_tooMuch))) (h84 : cc o G 84 284 (za 2000 A_tape)) (h87 : cc o G 87 287 (za 9000 LO)) (h88 : cc o G 88 288 (za 9000 HI)) (h93 : cc o G 93 293 (zb 1200 MK)) (h81 : cc o G 81 281 (za 13 tbA)) (h82 : cc o G 82 282 (za 66 tbT)) (h91 : cc o G 91 291 (za 24000 RL)) (h92 : cc o G 92 292 (za 24000 RH)) (h110 : cc o G 110 310 (za 120 NS)) (h111 : cc o G 111 311 (za 10 NM)) (ptrI_0 : trI o G 0 m_nodes m_sets (m_depth + 1) (-1) 0 0) (n18 : ab_n0 = 18) (cta : 0 ≤ m_taped ∧ m_taped ≤ 2000) (jtp : rgs A_tape 2000 0 255) (jmk : rgs MK 1200 0 1) (jrl : rgs RL 24000 0 1114111) (jrh : rgs RH 24000 0 1114111) (jns : rgs NS 120 0 255) (jnm : rgs NM 10 0 12) (cf : m_fault = 0) (cat : 0 ≤ m_at ∧ m_at < m_taped) (cpo : 0 ≤ m_nodes ∧ m_nodes + 2 * m_depth + 0 ≤ 2 * m_at ∧ 0 ≤ m_sets ∧ m_sets + 0 ≤ m_at ∧ 0 ≤ m_ranges ∧ m_ranges + 0 ≤ 12 * m_at ∧ 0 ≤ m_depth ∧ m_depth ≤ 30 ∧ 0 ≤ m_numbered ∧ m_numbered ≤ 9 ∧ -2147483648 ≤ m_flags ∧ m_flags ≤ 2147483647 ∧ -2147483648 ≤ m_value ∧ m_value ≤ 2147483647) (hd : 4 ≤ d) : ab_F X d y_MO_readGroup (.code y_MO_readGroup b_MO_readGroup 5 none) [vR 80] G (fun oc G2 => (∃ a2 : Int, ∃ v2 : Int, ∃ nt2 : Int, ∃ w2 : Int, ∃ g2 : Int, ∃ s2 : Int, ∃ r2 : Int, ∃ n2 : Int, ∃ fl2 : Int, ∃ nu2 : Int, ∃ d2 : Int, ∃ le2 : Int, ∃ mo2 : Int, ∃ f2 : Int, ∃ p2 : Int, ∃ LO2 : Int → Int, ∃ HI2 : Int → Int, ∃ MK2 : Int → Int, ∃ RL2 : Int → Int, ∃ RH2 : Int → Int, ∃ NS2 : Int → Int, ∃ NM2 : Int → Int, oc = .returned none ∧ fx o o [280, 287, 288, 293, 291, 292, 310, 311, 294, 295, 296, 297, 298, 299, 300, 301, 290, 289, 305, 306, 307, 308, 309, 302, 303, 304] G G2 ∧ G2.length = G.length ∧ ab_slots G2 = ab_slots G ∧ cc o G2 80 280 (ab_ob 12 (mof m_thrown m_taped m_length m_out w2 g2 s2 r2 n2 a2 fl2 f2 p2 nu2 d2 v2 nt2 le2 mo2 m_slot m_work m_got m_rowMany m_charAt m_charWide m_trail m_isMatch m_matchGroups m_allFrom m_allBefore m_founds m_pieces m_writtenMany m_templateWide m_tooMuch)) ∧ cc o G2 87 287 (za 9000 LO2) ∧ cc o G2 88 288 (za 9000 HI2) ∧ cc o G2 93 293 (zb 1200 MK2) ∧ cc o G2 91 291 (za 24000 RL2) ∧ cc o G2 92 292 (za 24000 RH2) ∧ cc o G2 110 310 (za 120 NS2) ∧ cc o G2 111 311 (za 10 NM2) ∧ trI o G2 0 n2 s2 (d2 + 1) (-1) 0 0 ∧ (f2 = 0 ∧ m_at < a2 ∧ a2 ≤ m_taped ∧ 0 ≤ n2 ∧ n2 + 2 * d2 ≤ 2 * a2 ∧ 0 ≤ s2 ∧ s2 ≤ a2 ∧ 0 ≤ r2 ∧ r2 ≤ 12 * a2 ∧ 0 ≤ d2 ∧ d2 ≤ 30 ∧ 0 ≤ nu2 ∧ nu2 ≤ 9 ∧ -2147483648 ≤ fl2 ∧ fl2 ≤ 2147483647 ∧ -2147483648 ≤ v2 ∧ v2 ≤ 2147483647) ∧ (rgs MK2 1200 0 1) ∧ (rgs RL2 24000 0 1114111) ∧ (rgs RH2 24000 0 1114111) ∧ (rgs NS2 120 0 255) ∧ (rgs NM2 10 0 12)) ∨ (∃ a2 : Int, ∃ v2 : Int, ∃ nt2 : Int, ∃ w2 : Int, ∃ g2 : Int, ∃ s2 : Int, ∃ r2 : Int, ∃ n2 : Int, ∃ fl2 : Int, ∃ nu2 : Int, ∃ d2 : Int, ∃ le2 : Int, ∃ mo2 : Int, ∃ f2 : Int, ∃ p2 : Int, ∃ LO2 : Int → Int, ∃ HI2 : Int → Int, ∃ MK2 : Int → Int, ∃ RL2 : Int → Int, ∃ RH2 : Int → Int, ∃ NS2 : Int → Int, ∃ NM2 : Int → Int, oc = .returned none ∧ fx o o [280, 287, 288, 293, 291, 292, 310, 311, 294, 295, 296, 297, 298, 299, 300, 301, 290, 289, 305, 306, 307, 308, 309, 302, 303, 304] G G2 ∧ G2.length = G.length ∧ ab_slots G2 = ab_slots G ∧ cc o G2 80 280 (ab_ob 12 (mof m_thrown m_taped m_length m_out w2 g2 s2 r2 n2 a2 fl2 f2 p2 nu2 d2 v2 nt2 le2 mo2 m_slot m_work m_got m_rowMany m_charAt m_charWide m_trail m_isMatch m_matchGroups m_allFrom m_allBefore m_founds m_pieces m_writtenMany m_templateWide m_tooMuch)) ∧ cc o G2 87 287 (za 9000 LO2) ∧ cc o G2 88 288 (za 9000 HI2) ∧ cc o G2 93 293 (zb 1200 MK2) ∧ cc o G2 91 291 (za 24000 RL2) ∧ cc o G2 92 292 (za 24000 RH2) ∧ cc o G2 110 310 (za 120 NS2) ∧ cc o G2 111 311 (za 10 NM2) ∧ trI o G2 0 n2 s2 (d2 + 1) (-1) 0 0 ∧ (1 ≤ f2 ∧ f2 ≤ 14 ∧ 0 ≤ a2 ∧ a2 ≤ 4000 ∧ 0 ≤ n2 ∧ n2 ≤ 4200 ∧ 0 ≤ s2 ∧ s2 ≤ 2100 ∧ 0 ≤ r2 ∧ r2 ≤ 24000 ∧ 0 ≤ d2 ∧ d2 ≤ 30 ∧ 0 ≤ nu2 ∧ nu2 ≤ 9 ∧ -2147483648 ≤ fl2 ∧ fl2 ≤ 2147483647 ∧ -2147483648 ≤ v2 ∧ v2 ≤ 2147483647) ∧ (rgs MK2 1200 0 1) ∧ (rgs RL2 24000 0 1114111) ∧ (rgs RH2 24000 0 1114111) ∧ (rgs NS2 120 0 255) ∧ (rgs NM2 10 0 12))) := by
  refine ab_F_of (by decide +kernel) (Nat.le_of_ble_eq_true rfl) ?_
  obtain ⟨Q, hQ⟩ : ∃ z : Outcome → ab_G → Prop, z = (fun oc G2 => (∃ a2 : Int, ∃ v2 : Int, ∃ nt2 : Int, ∃ w2 : Int, ∃ g2 : Int, ∃ s2 : Int, ∃ r2 : Int, ∃ n2 : Int, ∃ fl2 : Int, ∃ nu2 : Int, ∃ d2 : Int, ∃ le2 : Int, ∃ mo2 : Int, ∃ f2 : Int, ∃ p2 : Int, ∃ LO2 : Int → Int, ∃ HI2 : Int → Int, ∃ MK2 : Int → Int, ∃ RL2 : Int → Int, ∃ RH2 : Int → Int, ∃ NS2 : Int → Int, ∃ NM2 : Int → Int, oc = .returned none ∧ fx o o [280, 287, 288, 293, 291, 292, 310, 311, 294, 295, 296, 297, 298, 299, 300, 301, 290, 289, 305, 306, 307, 308, 309, 302, 303, 304] G G2 ∧ G2.length = G.length ∧ ab_slots G2 = ab_slots G ∧ cc o G2 80 280 (ab_ob 12 (mof m_thrown m_taped m_length m_out w2 g2 s2 r2 n2 a2 fl2 f2 p2 nu2 d2 v2 nt2 le2 mo2 m_slot m_work m_got m_rowMany m_charAt m_charWide m_trail m_isMatch m_matchGroups m_allFrom m_allBefore m_founds m_pieces m_writtenMany m_templateWide m_tooMuch)) ∧ cc o G2 87 287 (za 9000 LO2) ∧ cc o G2 88 288 (za 9000 HI2) ∧ cc o G2 93 293 (zb 1200 MK2) ∧ cc o G2 91 291 (za 24000 RL2) ∧ cc o G2 92 292 (za 24000 RH2) ∧ cc o G2 110 310 (za 120 NS2) ∧ cc o G2 111 311 (za 10 NM2) ∧ trI o G2 0 n2 s2 (d2 + 1) (-1) 0 0 ∧ (f2 = 0 ∧ m_at < a2 ∧ a2 ≤ m_taped ∧ 0 ≤ n2 ∧ n2 + 2 * d2 ≤ 2 * a2 ∧ 0 ≤ s2 ∧ s2 ≤ a2 ∧ 0 ≤ r2 ∧ r2 ≤ 12 * a2 ∧ 0 ≤ d2 ∧ d2 ≤ 30 ∧ 0 ≤ nu2 ∧ nu2 ≤ 9 ∧ -2147483648 ≤ fl2 ∧ fl2 ≤ 2147483647 ∧ -2147483648 ≤ v2 ∧ v2 ≤ 2147483647) ∧ (rgs MK2 1200 0 1) ∧ (rgs RL2 24000 0 1114111) ∧ (rgs RH2 24000 0 1114111) ∧ (rgs NS2 120 0 255) ∧ (rgs NM2 10 0 12)) ∨ (∃ a2 : Int, ∃ v2 : Int, ∃ nt2 : Int, ∃ w2 : Int, ∃ g2 : Int, ∃ s2 : Int, ∃ r2 : Int, ∃ n2 : Int, ∃ fl2 : Int, ∃ nu2 : Int, ∃ d2 : Int, ∃ le2 : Int, ∃ mo2 : Int, ∃ f2 : Int, ∃ p2 : Int, ∃ LO2 : Int → Int, ∃ HI2 : Int → Int, ∃ MK2 : Int → Int, ∃ RL2 : Int → Int, ∃ RH2 : Int → Int, ∃ NS2 : Int → Int, ∃ NM2 : Int → Int, oc = .returned none ∧ fx o o [280, 287, 288, 293, 291, 292, 310, 311, 294, 295, 296, 297, 298, 299, 300, 301, 290, 289, 305, 306, 307, 308, 309, 302, 303, 304] G G2 ∧ G2.length = G.length ∧ ab_slots G2 = ab_slots G ∧ cc o G2 80 280 (ab_ob 12 (mof m_thrown m_taped m_length m_out w2 g2 s2 r2 n2 a2 fl2 f2 p2 nu2 d2 v2 nt2 le2 mo2 m_slot m_work m_got m_rowMany m_charAt m_charWide m_trail m_isMatch m_matchGroups m_allFrom m_allBefore m_founds m_pieces m_writtenMany m_templateWide m_tooMuch)) ∧ cc o G2 87 287 (za 9000 LO2) ∧ cc o G2 88 288 (za 9000 HI2) ∧ cc o G2 93 293 (zb 1200 MK2) ∧ cc o G2 91 291 (za 24000 RL2) ∧ cc o G2 92 292 (za 24000 RH2) ∧ cc o G2 110 310 (za 120 NS2) ∧ cc o G2 111 311 (za 10 NM2) ∧ trI o G2 0 n2 s2 (d2 + 1) (-1) 0 0 ∧ (1 ≤ f2 ∧ f2 ≤ 14 ∧ 0 ≤ a2 ∧ a2 ≤ 4000 ∧ 0 ≤ n2 ∧ n2 ≤ 4200 ∧ 0 ≤ s2 ∧ s2 ≤ 2100 ∧ 0 ≤ r2 ∧ r2 ≤ 24000 ∧ 0 ≤ d2 ∧ d2 ≤ 30 ∧ 0 ≤ nu2 ∧ nu2 ≤ 9 ∧ -2147483648 ≤ fl2 ∧ fl2 ≤ 2147483647 ∧ -2147483648 ≤ v2 ∧ v2 ≤ 2147483647) ∧ (rgs MK2 1200 0 1) ∧ (rgs RL2 24000 0 1114111) ∧ (rgs RH2 24000 0 1114111) ∧ (rgs NS2 120 0 255) ∧ (rgs NM2 10 0 12))) := ⟨_, rfl⟩
  rw [← hQ]
  change ab_W X (ab_pl y_MO_readGroup b_MO_readGroup 5 none) d G 0 [some (vR 80), none, none, none, none] [] Q
  have hfr : fx o o [280, 287, 288, 293, 291, 292, 310, 311, 294, 295, 296, 297, 298, 299, 300, 301, 290, 289, 305, 306, 307, 308, 309, 302, 303, 304] G G := fx.rf
  have hlen : G.length = G.length := rfl
  have hsl : ab_slots G = ab_slots G := rfl
  refine ab_aload_n d_MO_readGroup_0 rfl ?_
  refine ab_getf (fs := mof m_thrown m_taped m_length m_out m_wide m_gathered m_sets m_ranges m_nodes m_at m_flags m_fault m_place m_numbered m_depth m_value m_isNot m_least0 m_most0 m_slot m_work m_got m_rowMany m_charAt m_charWide m_trail m_isMatch m_matchGroups m_allFrom m_allBefore m_founds m_pieces m_writtenMany m_templateWide m_tooMuch) f_MO_279 d_MO_readGroup_1 h80.2.2 rfl ?_
  refine ab_istore_n d_MO_readGroup_4 (Nat.le_of_ble_eq_true rfl) (Nat.le_of_ble_eq_true rfl) rfl ?_
  change ab_W _ _ _ G 5 [some (vR 80), some (vz m_at), none, none, none] [] _
  refine ab_aload_n d_MO_readGroup_5 rfl ?_
  refine zz_iconst d_MO_readGroup_6 ?_
  refine ab_callV (d' := d - 1) (as := [vz 1]) (st := []) (r := _) (z_MO_here (o := o) (m_thrown := m_thrown) (m_taped := m_taped) (m_length := m_length) (m_out := m_out) (m_wide := m_wide) (m_gathered := m_gathered) (m_sets := m_sets) (m_ranges := m_ranges) (m_nodes := m_nodes) (m_at := m_at) (m_flags := m_flags) (m_fault := m_fault) (m_place := m_place) (m_numbered := m_numbered) (m_depth := m_depth) (m_value := m_value) (m_isNot := m_isNot) (m_least0 := m_least0) (m_most0 := m_most0) (m_slot := m_slot) (m_work := m_work) (m_got := m_got) (m_rowMany := m_rowMany) (m_charAt := m_charAt) (m_charWide := m_charWide) (m_trail := m_trail) (m_isMatch := m_isMatch) (m_matchGroups := m_matchGroups) (m_allFrom := m_allFrom) (m_allBefore := m_allBefore) (m_founds := m_founds) (m_pieces := m_pieces) (m_writtenMany := m_writtenMany) (m_templateWide := m_templateWide) (m_tooMuch := m_tooMuch) (A_tape := A_tape) (k := 1) h80 h84 (by omega) (by omega) jtp (by omega)) (fun oc G2 h => by rcases h with ⟨h, _⟩ | ⟨h, _⟩ <;> exact ⟨_, h⟩) (by omega) m_MO_here ml_MO_297 im_MO_here se_MO_here c_MO h80.2.2 (Nat.le_of_ble_eq_true rfl) d_MO_readGroup_7 rfl ?_
  intro v G1 hq
  rcases hq with ⟨hv, hGe, hq2⟩ | ⟨hv, hGe, hq3⟩
  · cases hv
    rw [hGe]
    change ab_W _ _ _ G 10 [some (vR 80), some (vz m_at), none, none, none] [vz (A_tape (m_at + 1))] _
    refine zz_bipush d_MO_readGroup_10 (by decide) ?_
    refine zz_icmp_eq (tgt := 33) d_MO_readGroup_12 (by decide) (by omega) (by decide) (fun c4 => ?_) (fun c4 => ?_)
    · refine ab_aload_n d_MO_readGroup_33 rfl ?_
      refine zz_iconst d_MO_readGroup_34 ?_
      refine ab_callV (d' := d - 1) (as := [vz 2]) (st := []) (r := _) (z_MO_here (o := o) (m_thrown := m_thrown) (m_taped := m_taped) (m_length := m_length) (m_out := m_out) (m_wide := m_wide) (m_gathered := m_gathered) (m_sets := m_sets) (m_ranges := m_ranges) (m_nodes := m_nodes) (m_at := m_at) (m_flags := m_flags) (m_fault := m_fault) (m_place := m_place) (m_numbered := m_numbered) (m_depth := m_depth) (m_value := m_value) (m_isNot := m_isNot) (m_least0 := m_least0) (m_most0 := m_most0) (m_slot := m_slot) (m_work := m_work) (m_got := m_got) (m_rowMany := m_rowMany) (m_charAt := m_charAt) (m_charWide := m_charWide) (m_trail := m_trail) (m_isMatch := m_isMatch) (m_matchGroups := m_matchGroups) (m_allFrom := m_allFrom) (m_allBefore := m_allBefore) (m_founds := m_founds) (m_pieces := m_pieces) (m_writtenMany := m_writtenMany) (m_templateWide := m_templateWide) (m_tooMuch := m_tooMuch) (A_tape := A_tape) (k := 2) h80 h84 (by omega) (by omega) jtp (by omega)) (fun oc G2 h => by rcases h with ⟨h, _⟩ | ⟨h, _⟩ <;> exact ⟨_, h⟩) (by omega) m_MO_here ml_MO_297 im_MO_here se_MO_here c_MO h80.2.2 (Nat.le_of_ble_eq_true rfl) d_MO_readGroup_35 rfl ?_
      intro v G5 hq
      rcases hq with ⟨hv, hGe, hq6⟩ | ⟨hv, hGe, hq7⟩
      · cases hv
        rw [hGe]
        change ab_W _ _ _ G 38 [some (vR 80), some (vz m_at), none, none, none] [vz (A_tape (m_at + 2))] _
        refine zz_bipush d_MO_readGroup_38 (by decide) ?_
        refine zz_icmp_ne (tgt := 49) d_MO_readGroup_40 (by decide) (by omega) (by decide) (fun c8 => ?_) (fun c8 => ?_)
        · replace c8 : nzq (A_tape (m_at + 2)) 80 := c8
          refine ab_aload_n d_MO_readGroup_49 rfl ?_
          refine ab_getf (fs := mof m_thrown m_taped m_length m_out m_wide m_gathered m_sets m_ranges m_nodes m_at m_flags m_fault m_place m_numbered m_depth m_value m_isNot m_least0 m_most0 m_slot m_work m_got m_rowMany m_charAt m_charWide m_trail m_isMatch m_matchGroups m_allFrom m_allBefore m_founds m_pieces m_writtenMany m_templateWide m_tooMuch) f_MO_276 d_MO_readGroup_50 h80.2.2 rfl ?_
          refine ab_istore_n d_MO_readGroup_53 (Nat.le_of_ble_eq_true rfl) (Nat.le_of_ble_eq_true rfl) rfl ?_
          change ab_W _ _ _ G 54 [some (vR 80), some (vz m_at), some (vz m_flags), none, none] [] _
          refine zz_iconst d_MO_readGroup_54 ?_
          refine ab_istore_n d_MO_readGroup_55 (Nat.le_of_ble_eq_true rfl) (Nat.le_of_ble_eq_true rfl) rfl ?_
          change ab_W _ _ _ G 56 [some (vR 80), some (vz m_at), some (vz m_flags), some (vz 2), none] [] _
          refine y_MO_readGroup_56 (m_thrown := m_thrown) (m_taped := m_taped) (m_length := m_length) (m_out := m_out) (m_wide := m_wide) (m_gathered := m_gathered) (m_sets := m_sets) (m_ranges := m_ranges) (m_nodes := m_nodes) (m_at := m_at) (m_flags := m_flags) (m_fault := m_fault) (m_place := m_place) (m_numbered := m_numbered) (m_depth := m_depth) (m_value := m_value) (m_isNot := m_isNot) (m_least0 := m_least0) (m_most0 := m_most0) (m_slot := m_slot) (m_work := m_work) (m_got := m_got) (m_rowMany := m_rowMany) (m_charAt := m_charAt) (m_charWide := m_charWide) (m_trail := m_trail) (m_isMatch := m_isMatch) (m_matchGroups := m_matchGroups) (m_allFrom := m_allFrom) (m_allBefore := m_allBefore) (m_founds := m_founds) (m_pieces := m_pieces) (m_writtenMany := m_writtenMany) (m_templateWide := m_templateWide) (m_tooMuch := m_tooMuch) (A_tape := A_tape) (wh := m_at) (G0 := G) (nw := m_flags) (k := 2) (by omega) jtp (by omega) (by omega) (Int.toNat (m_taped - m_at - 2) + 1) h80 h84 (by omega) fx.rf rfl rfl (by omega) (fun G9 nw210 k211 hq12 hfk hlk hsk => ?_)
          · have h80 := hfk.get h80 (by decide)
            have h84 := hfk.get h84 (by decide)
            have h87 := hfk.get h87 (by decide)
            have h88 := hfk.get h88 (by decide)
            have h93 := hfk.get h93 (by decide)
            have h81 := hfk.get h81 (by decide)
            have h82 := hfk.get h82 (by decide)
            have h91 := hfk.get h91 (by decide)
            have h92 := hfk.get h92 (by decide)
            have h110 := hfk.get h110 (by decide)
            have h111 := hfk.get h111 (by decide)
            have ptrI_0 := trI.fr hfk ptrI_0 (by decide) (by decide) (by decide) (by decide) (by decide) (by decide) (by decide) (by decide) (by decide) (by decide) (by decide) (by decide) (by decide) (by decide) (by decide) (by decide) (by decide) (by decide)
            have hfr := hfr.tr hfk (by decide)
            have hlen := hlk.trans hlen
            have hsl := hsk.trans hsl
            change ab_W _ _ _ G9 84 [some (vR 80), some (vz m_at), some (vz nw210), some (vz k211), none] [] _
            refine ab_aload_n d_MO_readGroup_84 rfl ?_
            refine ab_iload_n d_MO_readGroup_85 rfl ?_
            refine ab_callV (d' := d - 1) (as := [vz k211]) (st := []) (r := _) (z_MO_here (o := o) (m_thrown := m_thrown) (m_taped := m_taped) (m_length := m_length) (m_out := m_out) (m_wide := m_wide) (m_gathered := m_gathered) (m_sets := m_sets) (m_ranges := m_ranges) (m_nodes := m_nodes) (m_at := m_at) (m_flags := m_flags) (m_fault := m_fault) (m_place := m_place) (m_numbered := m_numbered) (m_depth := m_depth) (m_value := m_value) (m_isNot := m_isNot) (m_least0 := m_least0) (m_most0 := m_most0) (m_slot := m_slot) (m_work := m_work) (m_got := m_got) (m_rowMany := m_rowMany) (m_charAt := m_charAt) (m_charWide := m_charWide) (m_trail := m_trail) (m_isMatch := m_isMatch) (m_matchGroups := m_matchGroups) (m_allFrom := m_allFrom) (m_allBefore := m_allBefore) (m_founds := m_founds) (m_pieces := m_pieces) (m_writtenMany := m_writtenMany) (m_templateWide := m_templateWide) (m_tooMuch := m_tooMuch) (A_tape := A_tape) (k := k211) h80 h84 (by omega) (by omega) jtp (by omega)) (fun oc G2 h => by rcases h with ⟨h, _⟩ | ⟨h, _⟩ <;> exact ⟨_, h⟩) (by omega) m_MO_here ml_MO_297 im_MO_here se_MO_here c_MO h80.2.2 (Nat.le_of_ble_eq_true rfl) d_MO_readGroup_86 rfl ?_
            intro v G13 hq
            rcases hq with ⟨hv, hGe, hq14⟩ | ⟨hv, hGe, hq15⟩
            · cases hv
              rw [hGe]
              change ab_W _ _ _ G9 89 [some (vR 80), some (vz m_at), some (vz nw210), some (vz k211), none] [vz (A_tape (m_at + k211))] _
              refine zz_bipush d_MO_readGroup_89 (by decide) ?_
              refine zz_icmp_ne (tgt := 145) d_MO_readGroup_91 (by decide) (by omega) (by decide) (fun c16 => ?_) (fun c16 => ?_)
              · replace c16 : nzq (A_tape (m_at + k211)) 45 := c16
                refine ab_aload_n d_MO_readGroup_145 rfl ?_
                refine ab_iload_n d_MO_readGroup_146 rfl ?_
                refine ab_callV (d' := d - 1) (as := [vz k211]) (st := []) (r := _) (z_MO_here (o := o) (m_thrown := m_thrown) (m_taped := m_taped) (m_length := m_length) (m_out := m_out) (m_wide := m_wide) (m_gathered := m_gathered) (m_sets := m_sets) (m_ranges := m_ranges) (m_nodes := m_nodes) (m_at := m_at) (m_flags := m_flags) (m_fault := m_fault) (m_place := m_place) (m_numbered := m_numbered) (m_depth := m_depth) (m_value := m_value) (m_isNot := m_isNot) (m_least0 := m_least0) (m_most0 := m_most0) (m_slot := m_slot) (m_work := m_work) (m_got := m_got) (m_rowMany := m_rowMany) (m_charAt := m_charAt) (m_charWide := m_charWide) (m_trail := m_trail) (m_isMatch := m_isMatch) (m_matchGroups := m_matchGroups) (m_allFrom := m_allFrom) (m_allBefore := m_allBefore) (m_founds := m_founds) (m_pieces := m_pieces) (m_writtenMany := m_writtenMany) (m_templateWide := m_templateWide) (m_tooMuch := m_tooMuch) (A_tape := A_tape) (k := k211) h80 h84 (by omega) (by omega) jtp (by omega)) (fun oc G2 h => by rcases h with ⟨h, _⟩ | ⟨h, _⟩ <;> exact ⟨_, h⟩) (by omega) m_MO_here ml_MO_297 im_MO_here se_MO_here c_MO h80.2.2 (Nat.le_of_ble_eq_true rfl) d_MO_readGroup_147 rfl ?_
                intro v G17 hq
                rcases hq with ⟨hv, hGe, hq18⟩ | ⟨hv, hGe, hq19⟩
                · cases hv
                  rw [hGe]
                  change ab_W _ _ _ G9 150 [some (vR 80), some (vz m_at), some (vz nw210), some (vz k211), none] [vz (A_tape (m_at + k211))] _
                  refine ab_istore d_MO_readGroup_150 (Nat.le_of_ble_eq_true rfl) (Nat.le_of_ble_eq_true rfl) rfl ?_
                  change ab_W _ _ _ G9 152 [some (vR 80), some (vz m_at), some (vz nw210), some (vz k211), some (vz (A_tape (m_at + k211)))] [] _
                  refine ab_iload d_MO_readGroup_152 rfl ?_
                  refine zz_bipush d_MO_readGroup_154 (by decide) ?_
                  refine zz_icmp_eq (tgt := 176) d_MO_readGroup_156 (by decide) (by omega) (by decide) (fun c20 => ?_) (fun c20 => ?_)
                  · refine ab_iload d_MO_readGroup_176 rfl ?_
                    refine zz_bipush d_MO_readGroup_178 (by decide) ?_
                    refine zz_icmp_ne (tgt := 199) d_MO_readGroup_180 (by decide) (by omega) (by decide) (fun c21 => absurd c21 (by omega)) (fun c21 => ?_)
                    refine ab_aload_n d_MO_readGroup_183 rfl ?_
                    refine ab_getf (fs := mof m_thrown m_taped m_length m_out m_wide m_gathered m_sets m_ranges m_nodes m_at m_flags m_fault m_place m_numbered m_depth m_value m_isNot m_least0 m_most0 m_slot m_work m_got m_rowMany m_charAt m_charWide m_trail m_isMatch m_matchGroups m_allFrom m_allBefore m_founds m_pieces m_writtenMany m_templateWide m_tooMuch) f_MO_282 d_MO_readGroup_184 h80.2.2 rfl ?_
                    refine zz_bipush d_MO_readGroup_187 (by decide) ?_
                    refine zz_icmp_ne (tgt := 199) d_MO_readGroup_189 (by decide) (by omega) (by decide) (fun c22 => ?_) (fun c22 => ?_)
                    · refine ab_aload_n d_MO_readGroup_199 rfl ?_
                      refine ab_getf (fs := mof m_thrown m_taped m_length m_out m_wide m_gathered m_sets m_ranges m_nodes m_at m_flags m_fault m_place m_numbered m_depth m_value m_isNot m_least0 m_most0 m_slot m_work m_got m_rowMany m_charAt m_charWide m_trail m_isMatch m_matchGroups m_allFrom m_allBefore m_founds m_pieces m_writtenMany m_templateWide m_tooMuch) f_MO_273 d_MO_readGroup_200 h80.2.2 rfl ?_
                      refine zz_if_le (tgt := 207) d_MO_readGroup_203 (by decide) (by omega) (fun c23 => ?_) (fun c23 => absurd c23 (by omega))
                      refine ab_aload_n d_MO_readGroup_207 rfl ?_
                      refine ab_dup d_MO_readGroup_208 rfl ?_
                      refine ab_getf (fs := mof m_thrown m_taped m_length m_out m_wide m_gathered m_sets m_ranges m_nodes m_at m_flags m_fault m_place m_numbered m_depth m_value m_isNot m_least0 m_most0 m_slot m_work m_got m_rowMany m_charAt m_charWide m_trail m_isMatch m_matchGroups m_allFrom m_allBefore m_founds m_pieces m_writtenMany m_templateWide m_tooMuch) f_MO_279 d_MO_readGroup_209 h80.2.2 rfl ?_
                      refine ab_iload_n d_MO_readGroup_212 rfl ?_
                      refine zz_iconst d_MO_readGroup_213 ?_
                      refine zz_iadd d_MO_readGroup_214 ?_
                      refine zz_iadd d_MO_readGroup_215 ?_
                      refine ab_putf (fs := mof m_thrown m_taped m_length m_out m_wide m_gathered m_sets m_ranges m_nodes m_at m_flags m_fault m_place m_numbered m_depth m_value m_isNot m_least0 m_most0 m_slot m_work m_got m_rowMany m_charAt m_charWide m_trail m_isMatch m_matchGroups m_allFrom m_allBefore m_founds m_pieces m_writtenMany m_templateWide m_tooMuch) f_MO_279 (Or.inl rfl) d_MO_readGroup_216 h80.2.2 (Nat.le_of_ble_eq_true rfl) (fun _ => ⟨rfl, rfl⟩) (h80.2.1 (by decide)) ?_
                      obtain ⟨G24, eG24⟩ : ∃ z : ab_G, z = List.set G9 80 (ab_ob 12 (mof m_thrown m_taped m_length m_out m_wide m_gathered m_sets m_ranges m_nodes (m_at + (k211 + 1)) m_flags m_fault m_place m_numbered m_depth m_value m_isNot m_least0 m_most0 m_slot m_work m_got m_rowMany m_charAt m_charWide m_trail m_isMatch m_matchGroups m_allFrom m_allBefore m_founds m_pieces m_writtenMany m_templateWide m_tooMuch)) := ⟨_, rfl⟩
                      have h84 := h84.keep h80 eG24 (by decide)
                      have h87 := h87.keep h80 eG24 (by decide)
                      have h88 := h88.keep h80 eG24 (by decide)
                      have h93 := h93.keep h80 eG24 (by decide)
                      have h81 := h81.keep h80 eG24 (by decide)
                      have h82 := h82.keep h80 eG24 (by decide)
                      have h91 := h91.keep h80 eG24 (by decide)
                      have h92 := h92.keep h80 eG24 (by decide)
                      have h110 := h110.keep h80 eG24 (by decide)
                      have h111 := h111.keep h80 eG24 (by decide)
                      have hst := (fx.rf (o := o) (S := [280]) (G := G9)).wr h80 eG24 (List.mem_singleton.mpr rfl)
                      have ptrI_0 := trI.fr hst ptrI_0 (by decide) (by decide) (by decide) (by decide) (by decide) (by decide) (by decide) (by decide) (by decide) (by decide) (by decide) (by decide) (by decide) (by decide) (by decide) (by decide) (by decide) (by decide)
                      have hlen := (z_len eG24).trans hlen
                      have hsl := (z_sl h80 eG24 rfl).trans hsl
                      have hfr := hfr.wr h80 eG24 (by decide)
                      have h80 := h80.kept eG24
                      change ab_W _ _ _ (List.set G9 80 (ab_ob 12 (mof m_thrown m_taped m_length m_out m_wide m_gathered m_sets m_ranges m_nodes (m_at + (k211 + 1)) m_flags m_fault m_place m_numbered m_depth m_value m_isNot m_least0 m_most0 m_slot m_work m_got m_rowMany m_charAt m_charWide m_trail m_isMatch m_matchGroups m_allFrom m_allBefore m_founds m_pieces m_writtenMany m_templateWide m_tooMuch))) 219 [some (vR 80), some (vz m_at), some (vz nw210), some (vz k211), some (vz (A_tape (m_at + k211)))] [] _
                      rw [← eG24]
                      refine ab_iload d_MO_readGroup_219 rfl ?_
                      refine zz_bipush d_MO_readGroup_221 (by decide) ?_
                      refine zz_icmp_ne (tgt := 244) d_MO_readGroup_223 (by decide) (by omega) (by decide) (fun c25 => ?_) (fun c25 => absurd c25 (by omega))
                      refine ab_aload_n d_MO_readGroup_244 rfl ?_
                      refine ab_dup d_MO_readGroup_245 rfl ?_
                      refine ab_getf (fs := mof m_thrown m_taped m_length m_out m_wide m_gathered m_sets m_ranges m_nodes (m_at + (k211 + 1)) m_flags m_fault m_place m_numbered m_depth m_value m_isNot m_least0 m_most0 m_slot m_work m_got m_rowMany m_charAt m_charWide m_trail m_isMatch m_matchGroups m_allFrom m_allBefore m_founds m_pieces m_writtenMany m_templateWide m_tooMuch) f_MO_282 d_MO_readGroup_246 h80.2.2 rfl ?_
                      refine zz_iconst d_MO_readGroup_249 ?_
                      refine zz_iadd d_MO_readGroup_250 ?_
                      refine ab_putf (fs := mof m_thrown m_taped m_length m_out m_wide m_gathered m_sets m_ranges m_nodes (m_at + (k211 + 1)) m_flags m_fault m_place m_numbered m_depth m_value m_isNot m_least0 m_most0 m_slot m_work m_got m_rowMany m_charAt m_charWide m_trail m_isMatch m_matchGroups m_allFrom m_allBefore m_founds m_pieces m_writtenMany m_templateWide m_tooMuch) f_MO_282 (Or.inl rfl) d_MO_readGroup_251 h80.2.2 (Nat.le_of_ble_eq_true rfl) (fun _ => ⟨rfl, rfl⟩) (h80.2.1 (by decide)) ?_
                      obtain ⟨G26, eG26⟩ : ∃ z : ab_G, z = List.set G24 80 (ab_ob 12 (mof m_thrown m_taped m_length m_out m_wide m_gathered m_sets m_ranges m_nodes (m_at + (k211 + 1)) m_flags m_fault m_place m_numbered (m_depth + 1) m_value m_isNot m_least0 m_most0 m_slot m_work m_got m_rowMany m_charAt m_charWide m_trail m_isMatch m_matchGroups m_allFrom m_allBefore m_founds m_pieces m_writtenMany m_templateWide m_tooMuch)) := ⟨_, rfl⟩
                      have h84 := h84.keep h80 eG26 (by decide)
                      have h87 := h87.keep h80 eG26 (by decide)
                      have h88 := h88.keep h80 eG26 (by decide)
                      have h93 := h93.keep h80 eG26 (by decide)
                      have h81 := h81.keep h80 eG26 (by decide)
                      have h82 := h82.keep h80 eG26 (by decide)
                      have h91 := h91.keep h80 eG26 (by decide)
                      have h92 := h92.keep h80 eG26 (by decide)
                      have h110 := h110.keep h80 eG26 (by decide)
                      have h111 := h111.keep h80 eG26 (by decide)
                      have hst := (fx.rf (o := o) (S := [280]) (G := G24)).wr h80 eG26 (List.mem_singleton.mpr rfl)
                      have ptrI_0 := trI.fr hst ptrI_0 (by decide) (by decide) (by decide) (by decide) (by decide) (by decide) (by decide) (by decide) (by decide) (by decide) (by decide) (by decide) (by decide) (by decide) (by decide) (by decide) (by decide) (by decide)
                      have hlen := (z_len eG26).trans hlen
                      have hsl := (z_sl h80 eG26 rfl).trans hsl
                      have hfr := hfr.wr h80 eG26 (by decide)
                      have h80 := h80.kept eG26
                      change ab_W _ _ _ (List.set G24 80 (ab_ob 12 (mof m_thrown m_taped m_length m_out m_wide m_gathered m_sets m_ranges m_nodes (m_at + (k211 + 1)) m_flags m_fault m_place m_numbered (m_depth + 1) m_value m_isNot m_least0 m_most0 m_slot m_work m_got m_rowMany m_charAt m_charWide m_trail m_isMatch m_matchGroups m_allFrom m_allBefore m_founds m_pieces m_writtenMany m_templateWide m_tooMuch))) 254 [some (vR 80), some (vz m_at), some (vz nw210), some (vz k211), some (vz (A_tape (m_at + k211)))] [] _
                      rw [← eG26]
                      refine ab_aload_n d_MO_readGroup_254 rfl ?_
                      refine ab_iload_n d_MO_readGroup_255 rfl ?_
                      refine ab_aload_n d_MO_readGroup_256 rfl ?_
                      refine ab_getf (fs := mof m_thrown m_taped m_length m_out m_wide m_gathered m_sets m_ranges m_nodes (m_at + (k211 + 1)) m_flags m_fault m_place m_numbered (m_depth + 1) m_value m_isNot m_least0 m_most0 m_slot m_work m_got m_rowMany m_charAt m_charWide m_trail m_isMatch m_matchGroups m_allFrom m_allBefore m_founds m_pieces m_writtenMany m_templateWide m_tooMuch) f_MO_276 d_MO_readGroup_257 h80.2.2 rfl ?_
                      refine zz_iconst d_MO_readGroup_260 ?_
                      refine ab_callV (d' := d - 1) (as := [vz m_at, vz m_flags, vz 0]) (st := []) (r := _) (z_MO_openGroup (o := o) (m_thrown := m_thrown) (m_taped := m_taped) (m_length := m_length) (m_out := m_out) (m_wide := m_wide) (m_gathered := m_gathered) (m_sets := m_sets) (m_ranges := m_ranges) (m_nodes := m_nodes) (m_at := (m_at + (k211 + 1))) (m_flags := m_flags) (m_fault := m_fault) (m_place := m_place) (m_numbered := m_numbered) (m_depth := (m_depth + 1)) (m_value := m_value) (m_isNot := m_isNot) (m_least0 := m_least0) (m_most0 := m_most0) (m_slot := m_slot) (m_work := m_work) (m_got := m_got) (m_rowMany := m_rowMany) (m_charAt := m_charAt) (m_charWide := m_charWide) (m_trail := m_trail) (m_isMatch := m_isMatch) (m_matchGroups := m_matchGroups) (m_allFrom := m_allFrom) (m_allBefore := m_allBefore) (m_founds := m_founds) (m_pieces := m_pieces) (m_writtenMany := m_writtenMany) (m_templateWide := m_templateWide) (m_tooMuch := m_tooMuch) (x := m_at) (y := m_flags) (w := 0) (dn := (-1)) (dh := 0) (re_ := 0) h80 ptrI_0 (by omega) (by omega) (by omega) (by omega)) (fun oc G2 h => by rcases h with ⟨h, _⟩ <;> exact ⟨_, h⟩) (by omega) m_MO_openGroup ml_MO_392 im_MO_openGroup se_MO_openGroup c_MO h80.2.2 (Nat.le_of_ble_eq_true rfl) d_MO_readGroup_261 rfl ?_
                      intro v G27 hq
                      rcases hq with ⟨hv, hfk, hlk, hsk, pNtrI_0⟩
                      cases hv
                      have h80 := hfk.get h80 (by decide)
                      have h84 := hfk.get h84 (by decide)
                      have h87 := hfk.get h87 (by decide)
                      have h88 := hfk.get h88 (by decide)
                      have h93 := hfk.get h93 (by decide)
                      have h81 := hfk.get h81 (by decide)
                      have h82 := hfk.get h82 (by decide)
                      have h91 := hfk.get h91 (by decide)
                      have h92 := hfk.get h92 (by decide)
                      have h110 := hfk.get h110 (by decide)
                      have h111 := hfk.get h111 (by decide)
                      have ptrI_0 := pNtrI_0
                      have hfr := hfr.tr hfk (by decide)
                      have hlen := hlk.trans hlen
                      have hsl := hsk.trans hsl
                      change ab_W _ _ _ G27 264 [some (vR 80), some (vz m_at), some (vz nw210), some (vz k211), some (vz (A_tape (m_at + k211)))] [] _
                      refine ab_aload_n d_MO_readGroup_264 rfl ?_
                      refine ab_iload_n d_MO_readGroup_265 rfl ?_
                      refine ab_putf (fs := mof m_thrown m_taped m_length m_out m_wide m_gathered m_sets m_ranges m_nodes (m_at + (k211 + 1)) m_flags m_fault m_place m_numbered (m_depth + 1) m_value m_isNot m_least0 m_most0 m_slot m_work m_got m_rowMany m_charAt m_charWide m_trail m_isMatch m_matchGroups m_allFrom m_allBefore m_founds m_pieces m_writtenMany m_templateWide m_tooMuch) f_MO_276 (Or.inl rfl) d_MO_readGroup_266 h80.2.2 (Nat.le_of_ble_eq_true rfl) (fun _ => ⟨rfl, rfl⟩) (h80.2.1 (by decide)) ?_
                      obtain ⟨G28, eG28⟩ : ∃ z : ab_G, z = List.set G27 80 (ab_ob 12 (mof m_thrown m_taped m_length m_out m_wide m_gathered m_sets m_ranges m_nodes (m_at + (k211 + 1)) nw210 m_fault m_place m_numbered (m_depth + 1) m_value m_isNot m_least0 m_most0 m_slot m_work m_got m_rowMany m_charAt m_charWide m_trail m_isMatch m_matchGroups m_allFrom m_allBefore m_founds m_pieces m_writtenMany m_templateWide m_tooMuch)) := ⟨_, rfl⟩
                      have h84 := h84.keep h80 eG28 (by decide)
                      have h87 := h87.keep h80 eG28 (by decide)
                      have h88 := h88.keep h80 eG28 (by decide)
                      have h93 := h93.keep h80 eG28 (by decide)
                      have h81 := h81.keep h80 eG28 (by decide)
                      have h82 := h82.keep h80 eG28 (by decide)
                      have h91 := h91.keep h80 eG28 (by decide)
                      have h92 := h92.keep h80 eG28 (by decide)
                      have h110 := h110.keep h80 eG28 (by decide)
                      have h111 := h111.keep h80 eG28 (by decide)
                      have hst := (fx.rf (o := o) (S := [280]) (G := G27)).wr h80 eG28 (List.mem_singleton.mpr rfl)
                      have ptrI_0 := trI.fr hst ptrI_0 (by decide) (by decide) (by decide) (by decide) (by decide) (by decide) (by decide) (by decide) (by decide) (by decide) (by decide) (by decide) (by decide) (by decide) (by decide) (by decide) (by decide) (by decide)
                      have hlen := (z_len eG28).trans hlen
                      have hsl := (z_sl h80 eG28 rfl).trans hsl
                      have hfr := hfr.wr h80 eG28 (by decide)
                      have h80 := h80.kept eG28
                      change ab_W _ _ _ (List.set G27 80 (ab_ob 12 (mof m_thrown m_taped m_length m_out m_wide m_gathered m_sets m_ranges m_nodes (m_at + (k211 + 1)) nw210 m_fault m_place m_numbered (m_depth + 1) m_value m_isNot m_least0 m_most0 m_slot m_work m_got m_rowMany m_charAt m_charWide m_trail m_isMatch m_matchGroups m_allFrom m_allBefore m_founds m_pieces m_writtenMany m_templateWide m_tooMuch))) 269 [some (vR 80), some (vz m_at), some (vz nw210), some (vz k211), some (vz (A_tape (m_at + k211)))] [] _
                      rw [← eG28]
                      refine ab_vret rfl d_MO_readGroup_269 ?_
                      rw [hQ]; exact (Or.inl ⟨_, _, _, _, _, _, _, _, _, _, _, _, _, _, _, _, _, _, _, _, _, _, rfl, hfr, hlen, hsl, h80, h87, h88, h93, h91, h92, h110, h111, ptrI_0, (by omega), (by first | exact jmk | exact rgs_w jmk (by omega)), (by first | exact jrl | exact rgs_w jrl (by omega)), (by first | exact jrh | exact rgs_w jrh (by omega)), (by first | exact jns | exact rgs_w jns (by omega)), (by first | exact jnm | exact rgs_w jnm (by omega))⟩)
                    · refine ab_aload_n d_MO_readGroup_192 rfl ?_
                      refine zz_bipush d_MO_readGroup_193 (by decide) ?_
                      refine ab_iload_n d_MO_readGroup_195 rfl ?_
                      refine ab_callV (d' := d - 1) (as := [vz 12, vz m_at]) (st := []) (r := _) (z_MO_wrong (o := o) (m_thrown := m_thrown) (m_taped := m_taped) (m_length := m_length) (m_out := m_out) (m_wide := m_wide) (m_gathered := m_gathered) (m_sets := m_sets) (m_ranges := m_ranges) (m_nodes := m_nodes) (m_at := m_at) (m_flags := m_flags) (m_fault := m_fault) (m_place := m_place) (m_numbered := m_numbered) (m_depth := m_depth) (m_value := m_value) (m_isNot := m_isNot) (m_least0 := m_least0) (m_most0 := m_most0) (m_slot := m_slot) (m_work := m_work) (m_got := m_got) (m_rowMany := m_rowMany) (m_charAt := m_charAt) (m_charWide := m_charWide) (m_trail := m_trail) (m_isMatch := m_isMatch) (m_matchGroups := m_matchGroups) (m_allFrom := m_allFrom) (m_allBefore := m_allBefore) (m_founds := m_founds) (m_pieces := m_pieces) (m_writtenMany := m_writtenMany) (m_templateWide := m_templateWide) (m_tooMuch := m_tooMuch) (x := 12) (y := m_at) h80 (by omega) (by omega)) (fun oc G2 h => by rcases h with ⟨_, _, h, _⟩ <;> exact ⟨_, h⟩) (by omega) m_MO_wrong ml_MO_304 im_MO_wrong se_MO_wrong c_MO h80.2.2 (Nat.le_of_ble_eq_true rfl) d_MO_readGroup_196 rfl ?_
                      intro v G29 hq
                      rcases hq with ⟨f230, p231, hv, hfk, hlk, hsk, hN80, hq32⟩
                      cases hv
                      have h84 := hfk.get h84 (by decide)
                      have h87 := hfk.get h87 (by decide)
                      have h88 := hfk.get h88 (by decide)
                      have h93 := hfk.get h93 (by decide)
                      have h81 := hfk.get h81 (by decide)
                      have h82 := hfk.get h82 (by decide)
                      have h91 := hfk.get h91 (by decide)
                      have h92 := hfk.get h92 (by decide)
                      have h110 := hfk.get h110 (by decide)
                      have h111 := hfk.get h111 (by decide)
                      have ptrI_0 := trI.fr hfk ptrI_0 (by decide) (by decide) (by decide) (by decide) (by decide) (by decide) (by decide) (by decide) (by decide) (by decide) (by decide) (by decide) (by decide) (by decide) (by decide) (by decide) (by decide) (by decide)
                      have hfr := hfr.tr hfk (by decide)
                      have hlen := hlk.trans hlen
                      have hsl := hsk.trans hsl
                      have h80 := hN80
                      change ab_W _ _ _ G29 199 [some (vR 80), some (vz m_at), some (vz nw210), some (vz k211), some (vz (A_tape (m_at + k211)))] [] _
                      refine ab_aload_n d_MO_readGroup_199 rfl ?_
                      refine ab_getf (fs := mof m_thrown m_taped m_length m_out m_wide m_gathered m_sets m_ranges m_nodes m_at m_flags f230 p231 m_numbered m_depth m_value m_isNot m_least0 m_most0 m_slot m_work m_got m_rowMany m_charAt m_charWide m_trail m_isMatch m_matchGroups m_allFrom m_allBefore m_founds m_pieces m_writtenMany m_templateWide m_tooMuch) f_MO_273 d_MO_readGroup_200 h80.2.2 rfl ?_
                      refine zz_if_le (tgt := 207) d_MO_readGroup_203 (by decide) (by omega) (fun c33 => absurd c33 (by omega)) (fun c33 => ?_)
                      refine ab_vret rfl d_MO_readGroup_206 ?_
                      rw [hQ]; exact (Or.inr ⟨_, _, _, _, _, _, _, _, _, _, _, _, _, _, _, _, _, _, _, _, _, _, rfl, hfr, hlen, hsl, h80, h87, h88, h93, h91, h92, h110, h111, ptrI_0, (by omega), (by first | exact jmk | exact rgs_w jmk (by omega)), (by first | exact jrl | exact rgs_w jrl (by omega)), (by first | exact jrh | exact rgs_w jrh (by omega)), (by first | exact jns | exact rgs_w jns (by omega)), (by first | exact jnm | exact rgs_w jnm (by omega))⟩)
                  · replace c20 : nzq (A_tape (m_at + k211)) 58 := c20
                    refine ab_iload d_MO_readGroup_159 rfl ?_
                    refine zz_bipush d_MO_readGroup_161 (by decide) ?_
                    refine zz_icmp_eq (tgt := 176) d_MO_readGroup_163 (by decide) (by omega) (by decide) (fun c34 => ?_) (fun c34 => ?_)
                    · refine ab_iload d_MO_readGroup_176 rfl ?_
                      refine zz_bipush d_MO_readGroup_178 (by decide) ?_
                      refine zz_icmp_ne (tgt := 199) d_MO_readGroup_180 (by decide) (by omega) (by decide) (fun c35 => ?_) (fun c35 => absurd c35 (by omega))
                      refine ab_aload_n d_MO_readGroup_199 rfl ?_
                      refine ab_getf (fs := mof m_thrown m_taped m_length m_out m_wide m_gathered m_sets m_ranges m_nodes m_at m_flags m_fault m_place m_numbered m_depth m_value m_isNot m_least0 m_most0 m_slot m_work m_got m_rowMany m_charAt m_charWide m_trail m_isMatch m_matchGroups m_allFrom m_allBefore m_founds m_pieces m_writtenMany m_templateWide m_tooMuch) f_MO_273 d_MO_readGroup_200 h80.2.2 rfl ?_
                      refine zz_if_le (tgt := 207) d_MO_readGroup_203 (by decide) (by omega) (fun c36 => ?_) (fun c36 => absurd c36 (by omega))
                      refine ab_aload_n d_MO_readGroup_207 rfl ?_
                      refine ab_dup d_MO_readGroup_208 rfl ?_
                      refine ab_getf (fs := mof m_thrown m_taped m_length m_out m_wide m_gathered m_sets m_ranges m_nodes m_at m_flags m_fault m_place m_numbered m_depth m_value m_isNot m_least0 m_most0 m_slot m_work m_got m_rowMany m_charAt m_charWide m_trail m_isMatch m_matchGroups m_allFrom m_allBefore m_founds m_pieces m_writtenMany m_templateWide m_tooMuch) f_MO_279 d_MO_readGroup_209 h80.2.2 rfl ?_
                      refine ab_iload_n d_MO_readGroup_212 rfl ?_
                      refine zz_iconst d_MO_readGroup_213 ?_
                      refine zz_iadd d_MO_readGroup_214 ?_
                      refine zz_iadd d_MO_readGroup_215 ?_
                      refine ab_putf (fs := mof m_thrown m_taped m_length m_out m_wide m_gathered m_sets m_ranges m_nodes m_at m_flags m_fault m_place m_numbered m_depth m_value m_isNot m_least0 m_most0 m_slot m_work m_got m_rowMany m_charAt m_charWide m_trail m_isMatch m_matchGroups m_allFrom m_allBefore m_founds m_pieces m_writtenMany m_templateWide m_tooMuch) f_MO_279 (Or.inl rfl) d_MO_readGroup_216 h80.2.2 (Nat.le_of_ble_eq_true rfl) (fun _ => ⟨rfl, rfl⟩) (h80.2.1 (by decide)) ?_
                      obtain ⟨G37, eG37⟩ : ∃ z : ab_G, z = List.set G9 80 (ab_ob 12 (mof m_thrown m_taped m_length m_out m_wide m_gathered m_sets m_ranges m_nodes (m_at + (k211 + 1)) m_flags m_fault m_place m_numbered m_depth m_value m_isNot m_least0 m_most0 m_slot m_work m_got m_rowMany m_charAt m_charWide m_trail m_isMatch m_matchGroups m_allFrom m_allBefore m_founds m_pieces m_writtenMany m_templateWide m_tooMuch)) := ⟨_, rfl⟩
                      have h84 := h84.keep h80 eG37 (by decide)
                      have h87 := h87.keep h80 eG37 (by decide)
                      have h88 := h88.keep h80 eG37 (by decide)
                      have h93 := h93.keep h80 eG37 (by decide)
                      have h81 := h81.keep h80 eG37 (by decide)
                      have h82 := h82.keep h80 eG37 (by decide)
                      have h91 := h91.keep h80 eG37 (by decide)
                      have h92 := h92.keep h80 eG37 (by decide)
                      have h110 := h110.keep h80 eG37 (by decide)
                      have h111 := h111.keep h80 eG37 (by decide)
                      have hst := (fx.rf (o := o) (S := [280]) (G := G9)).wr h80 eG37 (List.mem_singleton.mpr rfl)
                      have ptrI_0 := trI.fr hst ptrI_0 (by decide) (by decide) (by decide) (by decide) (by decide) (by decide) (by decide) (by decide) (by decide) (by decide) (by decide) (by decide) (by decide) (by decide) (by decide) (by decide) (by decide) (by decide)
                      have hlen := (z_len eG37).trans hlen
                      have hsl := (z_sl h80 eG37 rfl).trans hsl
                      have hfr := hfr.wr h80 eG37 (by decide)
                      have h80 := h80.kept eG37
                      change ab_W _ _ _ (List.set G9 80 (ab_ob 12 (mof m_thrown m_taped m_length m_out m_wide m_gathered m_sets m_ranges m_nodes (m_at + (k211 + 1)) m_flags m_fault m_place m_numbered m_depth m_value m_isNot m_least0 m_most0 m_slot m_work m_got m_rowMany m_charAt m_charWide m_trail m_isMatch m_matchGroups m_allFrom m_allBefore m_founds m_pieces m_writtenMany m_templateWide m_tooMuch))) 219 [some (vR 80), some (vz m_at), some (vz nw210), some (vz k211), some (vz (A_tape (m_at + k211)))] [] _
                      rw [← eG37]
                      refine ab_iload d_MO_readGroup_219 rfl ?_
                      refine zz_bipush d_MO_readGroup_221 (by decide) ?_
                      refine zz_icmp_ne (tgt := 244) d_MO_readGroup_223 (by decide) (by omega) (by decide) (fun c38 => absurd c38 (by omega)) (fun c38 => ?_)
                      refine ab_aload_n d_MO_readGroup_226 rfl ?_
                      refine ab_iload_n d_MO_readGroup_227 rfl ?_
                      refine ab_putf (fs := mof m_thrown m_taped m_length m_out m_wide m_gathered m_sets m_ranges m_nodes (m_at + (k211 + 1)) m_flags m_fault m_place m_numbered m_depth m_value m_isNot m_least0 m_most0 m_slot m_work m_got m_rowMany m_charAt m_charWide m_trail m_isMatch m_matchGroups m_allFrom m_allBefore m_founds m_pieces m_writtenMany m_templateWide m_tooMuch) f_MO_276 (Or.inl rfl) d_MO_readGroup_228 h80.2.2 (Nat.le_of_ble_eq_true rfl) (fun _ => ⟨rfl, rfl⟩) (h80.2.1 (by decide)) ?_
                      obtain ⟨G39, eG39⟩ : ∃ z : ab_G, z = List.set G37 80 (ab_ob 12 (mof m_thrown m_taped m_length m_out m_wide m_gathered m_sets m_ranges m_nodes (m_at + (k211 + 1)) nw210 m_fault m_place m_numbered m_depth m_value m_isNot m_least0 m_most0 m_slot m_work m_got m_rowMany m_charAt m_charWide m_trail m_isMatch m_matchGroups m_allFrom m_allBefore m_founds m_pieces m_writtenMany m_templateWide m_tooMuch)) := ⟨_, rfl⟩
                      have h84 := h84.keep h80 eG39 (by decide)
                      have h87 := h87.keep h80 eG39 (by decide)
                      have h88 := h88.keep h80 eG39 (by decide)
                      have h93 := h93.keep h80 eG39 (by decide)
                      have h81 := h81.keep h80 eG39 (by decide)
                      have h82 := h82.keep h80 eG39 (by decide)
                      have h91 := h91.keep h80 eG39 (by decide)
                      have h92 := h92.keep h80 eG39 (by decide)
                      have h110 := h110.keep h80 eG39 (by decide)
                      have h111 := h111.keep h80 eG39 (by decide)
                      have hst := (fx.rf (o := o) (S := [280]) (G := G37)).wr h80 eG39 (List.mem_singleton.mpr rfl)
                      have ptrI_0 := trI.fr hst ptrI_0 (by decide) (by decide) (by decide) (by decide) (by decide) (by decide) (by decide) (by decide) (by decide) (by decide) (by decide) (by decide) (by decide) (by decide) (by decide) (by decide) (by decide) (by decide)
                      have hlen := (z_len eG39).trans hlen
                      have hsl := (z_sl h80 eG39 rfl).trans hsl
                      have hfr := hfr.wr h80 eG39 (by decide)
                      have h80 := h80.kept eG39
                      change ab_W _ _ _ (List.set G37 80 (ab_ob 12 (mof m_thrown m_taped m_length m_out m_wide m_gathered m_sets m_ranges m_nodes (m_at + (k211 + 1)) nw210 m_fault m_place m_numbered m_depth m_value m_isNot m_least0 m_most0 m_slot m_work m_got m_rowMany m_charAt m_charWide m_trail m_isMatch m_matchGroups m_allFrom m_allBefore m_founds m_pieces m_writtenMany m_templateWide m_tooMuch))) 231 [some (vR 80), some (vz m_at), some (vz nw210), some (vz k211), some (vz (A_tape (m_at + k211)))] [] _
                      rw [← eG39]
                      obtain ⟨K, O, Fi, Be, Le, Mo, Z, LZ, SM, SA, QF, QL, AF, AL, SD, OA, OF, ON, h94, h95, h96, h97, h98, h99, h100, h101, h90, h89, h105, h106, h107, h108, h109, h102, h103, h104, jk, jo, jfi, jbe, jle, jmo, jz, jlz, jsm, jsa, jqf, jql, jaf, jal, jsd, joa, jof, jon, jt, cnd, cre, crs, crz, ck5, ck6, jss⟩ := ptrI_0
                      refine ab_aload_n d_MO_readGroup_231 rfl ?_
                      refine ab_aload_n d_MO_readGroup_232 rfl ?_
                      refine zz_iconst d_MO_readGroup_233 ?_
                      refine zz_iconst d_MO_readGroup_234 ?_
                      refine zz_lconst d_MO_readGroup_235 ?_
                      change ab_W _ _ _ G39 236 [some (vR 80), some (vz m_at), some (vz nw210), some (vz k211), some (vz (A_tape (m_at + k211)))] [vj 0, vz 0, vz 0, vR 80, vR 80] _
                      refine ab_callV (d' := d - 1) (as := [vz 0, vz 0, vj 0]) (st := [vR 80]) (r := _) (z_MO_node (o := o) (m_thrown := m_thrown) (m_taped := m_taped) (m_length := m_length) (m_out := m_out) (m_wide := m_wide) (m_gathered := m_gathered) (m_sets := m_sets) (m_ranges := m_ranges) (m_nodes := m_nodes) (m_at := (m_at + (k211 + 1))) (m_flags := nw210) (m_fault := m_fault) (m_place := m_place) (m_numbered := m_numbered) (m_depth := m_depth) (m_value := m_value) (m_isNot := m_isNot) (m_least0 := m_least0) (m_most0 := m_most0) (m_slot := m_slot) (m_work := m_work) (m_got := m_got) (m_rowMany := m_rowMany) (m_charAt := m_charAt) (m_charWide := m_charWide) (m_trail := m_trail) (m_isMatch := m_isMatch) (m_matchGroups := m_matchGroups) (m_allFrom := m_allFrom) (m_allBefore := m_allBefore) (m_founds := m_founds) (m_pieces := m_pieces) (m_writtenMany := m_writtenMany) (m_templateWide := m_templateWide) (m_tooMuch := m_tooMuch) (K := K) (O := O) (Fi := Fi) (Be := Be) (Z := Z) (k := 0) (w := 0) (zs := 0) h80 h94 h95 h96 h97 h100 (by omega) (by omega)) (fun oc G2 h => by rcases h with ⟨h, _⟩ <;> exact ⟨_, h⟩) (by omega) m_MO_node ml_MO_269 im_MO_node se_MO_node c_MO h80.2.2 (Nat.le_of_ble_eq_true rfl) d_MO_readGroup_236 rfl ?_
                      intro v G40 hq
                      rcases hq with ⟨hv, hfk, hlk, hsk, hN80, hN94, hN95, hN96, hN97, hN100⟩
                      cases hv
                      have h84 := hfk.get h84 (by decide)
                      have h87 := hfk.get h87 (by decide)
                      have h88 := hfk.get h88 (by decide)
                      have h93 := hfk.get h93 (by decide)
                      have h81 := hfk.get h81 (by decide)
                      have h82 := hfk.get h82 (by decide)
                      have h91 := hfk.get h91 (by decide)
                      have h92 := hfk.get h92 (by decide)
                      have h110 := hfk.get h110 (by decide)
                      have h111 := hfk.get h111 (by decide)
                      have h98 := hfk.get h98 (by decide)
                      have h99 := hfk.get h99 (by decide)
                      have h101 := hfk.get h101 (by decide)
                      have h90 := hfk.get h90 (by decide)
                      have h89 := hfk.get h89 (by decide)
                      have h105 := hfk.get h105 (by decide)
                      have h106 := hfk.get h106 (by decide)
                      have h107 := hfk.get h107 (by decide)
                      have h108 := hfk.get h108 (by decide)
                      have h109 := hfk.get h109 (by decide)
                      have h102 := hfk.get h102 (by decide)
                      have h103 := hfk.get h103 (by decide)
                      have h104 := hfk.get h104 (by decide)
                      have hfr := hfr.tr hfk (by decide)
                      have hlen := hlk.trans hlen
                      have hsl := hsk.trans hsl
                      have h80 := hN80
                      have h94 := hN94
                      have h95 := hN95
                      have h96 := hN96
                      have h97 := hN97
                      have h100 := hN100
                      change ab_W _ _ _ G40 239 [some (vR 80), some (vz m_at), some (vz nw210), some (vz k211), some (vz (A_tape (m_at + k211)))] [vz m_nodes, vR 80] _
                      have ptrI_0 : trI o G40 0 (m_nodes + 1) m_sets (m_depth + 1) m_nodes 0 6 := ⟨(zu K m_nodes 0), (zu O m_nodes 0), (zu Fi m_nodes (-1)), (zu Be m_nodes (-1)), Le, Mo, (zu Z m_nodes 0), LZ, SM, SA, QF, QL, AF, AL, SD, OA, OF, ON, h94, h95, h96, h97, h98, h99, h100, h101, h90, h89, h105, h106, h107, h108, h109, h102, h103, h104, (rgs_zu jk (by omega)), (rgs_zu jo (by omega)), (rgs_zu jfi (by omega)), (rgs_zu jbe (by omega)), jle, jmo, (rgs_zu jz (by omega)), jlz, jsm, jsa, jqf, jql, jaf, jal, jsd, joa, jof, jon, (rtr_leaf jt (by omega) (Or.inl ⟨rfl, rfl⟩)), (by omega), (fun h => absurd h (by decide)), (fun h => absurd h (by decide)), (fun h => absurd h (by decide)), (fun h => absurd h (by decide)), (fun _ => by rw [zu_self]; decide), jss⟩
                      refine zz_iconst d_MO_readGroup_239 ?_
                      refine ab_callV (d' := d - 1) (as := [vz m_nodes, vz 2]) (st := []) (r := _) (z_MO_part (o := o) (m_thrown := m_thrown) (m_taped := m_taped) (m_length := m_length) (m_out := m_out) (m_wide := m_wide) (m_gathered := m_gathered) (m_sets := m_sets) (m_ranges := m_ranges) (m_nodes := (m_nodes + 1)) (m_at := (m_at + (k211 + 1))) (m_flags := nw210) (m_fault := m_fault) (m_place := m_place) (m_numbered := m_numbered) (m_depth := m_depth) (m_value := m_value) (m_isNot := m_isNot) (m_least0 := m_least0) (m_most0 := m_most0) (m_slot := m_slot) (m_work := m_work) (m_got := m_got) (m_rowMany := m_rowMany) (m_charAt := m_charAt) (m_charWide := m_charWide) (m_trail := m_trail) (m_isMatch := m_isMatch) (m_matchGroups := m_matchGroups) (m_allFrom := m_allFrom) (m_allBefore := m_allBefore) (m_founds := m_founds) (m_pieces := m_pieces) (m_writtenMany := m_writtenMany) (m_templateWide := m_templateWide) (m_tooMuch := m_tooMuch) (x := m_nodes) (s := 2) (dh := 0) h80 ptrI_0 (by omega) (by omega) (by omega) (by omega)) (fun oc G2 h => by rcases h with ⟨h, _⟩ <;> exact ⟨_, h⟩) (by omega) m_MO_part ml_MO_375 im_MO_part se_MO_part c_MO h80.2.2 (Nat.le_of_ble_eq_true rfl) d_MO_readGroup_240 rfl ?_
                      intro v G41 hq
                      rcases hq with ⟨hv, hfk, hlk, hsk, pNtrI_0⟩
                      cases hv
                      have h80 := hfk.get h80 (by decide)
                      have h84 := hfk.get h84 (by decide)
                      have h87 := hfk.get h87 (by decide)
                      have h88 := hfk.get h88 (by decide)
                      have h93 := hfk.get h93 (by decide)
                      have h81 := hfk.get h81 (by decide)
                      have h82 := hfk.get h82 (by decide)
                      have h91 := hfk.get h91 (by decide)
                      have h92 := hfk.get h92 (by decide)
                      have h110 := hfk.get h110 (by decide)
                      have h111 := hfk.get h111 (by decide)
                      have ptrI_0 := pNtrI_0
                      have hfr := hfr.tr hfk (by decide)
                      have hlen := hlk.trans hlen
                      have hsl := hsk.trans hsl
                      change ab_W _ _ _ G41 243 [some (vR 80), some (vz m_at), some (vz nw210), some (vz k211), some (vz (A_tape (m_at + k211)))] [] _
                      refine ab_vret rfl d_MO_readGroup_243 ?_
                      rw [hQ]; exact (Or.inl ⟨_, _, _, _, _, _, _, _, _, _, _, _, _, _, _, _, _, _, _, _, _, _, rfl, hfr, hlen, hsl, h80, h87, h88, h93, h91, h92, h110, h111, ptrI_0, (by omega), (by first | exact jmk | exact rgs_w jmk (by omega)), (by first | exact jrl | exact rgs_w jrl (by omega)), (by first | exact jrh | exact rgs_w jrh (by omega)), (by first | exact jns | exact rgs_w jns (by omega)), (by first | exact jnm | exact rgs_w jnm (by omega))⟩)
                    · replace c34 : nzq (A_tape (m_at + k211)) 41 := c34
                      refine ab_aload_n d_MO_readGroup_166 rfl ?_
                      refine zz_bipush d_MO_readGroup_167 (by decide) ?_
                      refine ab_iload_n d_MO_readGroup_169 rfl ?_
                      refine ab_callV (d' := d - 1) (as := [vz 10, vz m_at]) (st := []) (r := _) (z_MO_wrong (o := o) (m_thrown := m_thrown) (m_taped := m_taped) (m_length := m_length) (m_out := m_out) (m_wide := m_wide) (m_gathered := m_gathered) (m_sets := m_sets) (m_ranges := m_ranges) (m_nodes := m_nodes) (m_at := m_at) (m_flags := m_flags) (m_fault := m_fault) (m_place := m_place) (m_numbered := m_numbered) (m_depth := m_depth) (m_value := m_value) (m_isNot := m_isNot) (m_least0 := m_least0) (m_most0 := m_most0) (m_slot := m_slot) (m_work := m_work) (m_got := m_got) (m_rowMany := m_rowMany) (m_charAt := m_charAt) (m_charWide := m_charWide) (m_trail := m_trail) (m_isMatch := m_isMatch) (m_matchGroups := m_matchGroups) (m_allFrom := m_allFrom) (m_allBefore := m_allBefore) (m_founds := m_founds) (m_pieces := m_pieces) (m_writtenMany := m_writtenMany) (m_templateWide := m_templateWide) (m_tooMuch := m_tooMuch) (x := 10) (y := m_at) h80 (by omega) (by omega)) (fun oc G2 h => by rcases h with ⟨_, _, h, _⟩ <;> exact ⟨_, h⟩) (by omega) m_MO_wrong ml_MO_304 im_MO_wrong se_MO_wrong c_MO h80.2.2 (Nat.le_of_ble_eq_true rfl) d_MO_readGroup_170 rfl ?_
                      intro v G42 hq
                      rcases hq with ⟨f243, p244, hv, hfk, hlk, hsk, hN80, hq45⟩
                      cases hv
                      have h84 := hfk.get h84 (by decide)
                      have h87 := hfk.get h87 (by decide)
                      have h88 := hfk.get h88 (by decide)
                      have h93 := hfk.get h93 (by decide)
                      have h81 := hfk.get h81 (by decide)
                      have h82 := hfk.get h82 (by decide)
                      have h91 := hfk.get h91 (by decide)
                      have h92 := hfk.get h92 (by decide)
                      have h110 := hfk.get h110 (by decide)
                      have h111 := hfk.get h111 (by decide)
                      have ptrI_0 := trI.fr hfk ptrI_0 (by decide) (by decide) (by decide) (by decide) (by decide) (by decide) (by decide) (by decide) (by decide) (by decide) (by decide) (by decide) (by decide) (by decide) (by decide) (by decide) (by decide) (by decide)
                      have hfr := hfr.tr hfk (by decide)
                      have hlen := hlk.trans hlen
                      have hsl := hsk.trans hsl
                      have h80 := hN80
                      change ab_W _ _ _ G42 173 [some (vR 80), some (vz m_at), some (vz nw210), some (vz k211), some (vz (A_tape (m_at + k211)))] [] _
                      refine ab_goto (tgt := 199) d_MO_readGroup_173 (by decide) ?_
                      refine ab_aload_n d_MO_readGroup_199 rfl ?_
                      refine ab_getf (fs := mof m_thrown m_taped m_length m_out m_wide m_gathered m_sets m_ranges m_nodes m_at m_flags f243 p244 m_numbered m_depth m_value m_isNot m_least0 m_most0 m_slot m_work m_got m_rowMany m_charAt m_charWide m_trail m_isMatch m_matchGroups m_allFrom m_allBefore m_founds m_pieces m_writtenMany m_templateWide m_tooMuch) f_MO_273 d_MO_readGroup_200 h80.2.2 rfl ?_
                      refine zz_if_le (tgt := 207) d_MO_readGroup_203 (by decide) (by omega) (fun c46 => absurd c46 (by omega)) (fun c46 => ?_)
                      refine ab_vret rfl d_MO_readGroup_206 ?_
                      rw [hQ]; exact (Or.inr ⟨_, _, _, _, _, _, _, _, _, _, _, _, _, _, _, _, _, _, _, _, _, _, rfl, hfr, hlen, hsl, h80, h87, h88, h93, h91, h92, h110, h111, ptrI_0, (by omega), (by first | exact jmk | exact rgs_w jmk (by omega)), (by first | exact jrl | exact rgs_w jrl (by omega)), (by first | exact jrh | exact rgs_w jrh (by omega)), (by first | exact jns | exact rgs_w jns (by omega)), (by first | exact jnm | exact rgs_w jnm (by omega))⟩)
                · cases hv
                  rw [hGe]
                  change ab_W _ _ _ G9 150 [some (vR 80), some (vz m_at), some (vz nw210), some (vz k211), none] [vz (-1)] _
                  exfalso; omega
              · refine zz_iinc d_MO_readGroup_94 rfl (Nat.le_of_ble_eq_true rfl) (Nat.le_of_ble_eq_true rfl) rfl ?_
                change ab_W _ _ _ G9 97 [some (vR 80), some (vz m_at), some (vz nw210), some (vz (k211 + 1)), none] [] _
                refine ab_aload_n d_MO_readGroup_97 rfl ?_
                refine ab_iload_n d_MO_readGroup_98 rfl ?_
                refine ab_callV (d' := d - 1) (as := [vz (k211 + 1)]) (st := []) (r := _) (z_MO_here (o := o) (m_thrown := m_thrown) (m_taped := m_taped) (m_length := m_length) (m_out := m_out) (m_wide := m_wide) (m_gathered := m_gathered) (m_sets := m_sets) (m_ranges := m_ranges) (m_nodes := m_nodes) (m_at := m_at) (m_flags := m_flags) (m_fault := m_fault) (m_place := m_place) (m_numbered := m_numbered) (m_depth := m_depth) (m_value := m_value) (m_isNot := m_isNot) (m_least0 := m_least0) (m_most0 := m_most0) (m_slot := m_slot) (m_work := m_work) (m_got := m_got) (m_rowMany := m_rowMany) (m_charAt := m_charAt) (m_charWide := m_charWide) (m_trail := m_trail) (m_isMatch := m_isMatch) (m_matchGroups := m_matchGroups) (m_allFrom := m_allFrom) (m_allBefore := m_allBefore) (m_founds := m_founds) (m_pieces := m_pieces) (m_writtenMany := m_writtenMany) (m_templateWide := m_templateWide) (m_tooMuch := m_tooMuch) (A_tape := A_tape) (k := (k211 + 1)) h80 h84 (by omega) (by omega) jtp (by omega)) (fun oc G2 h => by rcases h with ⟨h, _⟩ | ⟨h, _⟩ <;> exact ⟨_, h⟩) (by omega) m_MO_here ml_MO_297 im_MO_here se_MO_here c_MO h80.2.2 (Nat.le_of_ble_eq_true rfl) d_MO_readGroup_99 rfl ?_
                intro v G47 hq
                rcases hq with ⟨hv, hGe, hq48⟩ | ⟨hv, hGe, hq49⟩
                · cases hv
                  rw [hGe]
                  change ab_W _ _ _ G9 102 [some (vR 80), some (vz m_at), some (vz nw210), some (vz (k211 + 1)), none] [vz (A_tape (m_at + (k211 + 1)))] _
                  refine ab_callS (d' := d - 1) (as := [vz (A_tape (m_at + (k211 + 1)))]) (st := []) (z_MO_flagOf (o := o) (c := (A_tape (m_at + (k211 + 1)))) (by omega)) (fun oc G2 h => by rcases h with ⟨_, h, _⟩ <;> exact ⟨_, h⟩) (by omega) m_MO_flagOf ml_MO_389 st_MO_flagOf (Nat.le_of_ble_eq_true rfl) d_MO_readGroup_102 rfl ?_
                  intro v G50 hq
                  rcases hq with ⟨v51, hv, hGe, hq52, hq53, hq54⟩
                  cases hv
                  rw [hGe]
                  change ab_W _ _ _ G9 105 [some (vR 80), some (vz m_at), some (vz nw210), some (vz (k211 + 1)), none] [vz v51] _
                  refine zz_if_ne (tgt := 115) d_MO_readGroup_105 (by decide) (by omega) (fun c55 => ?_) (fun c55 => ?_)
                  · replace c55 : nzq v51 0 := c55
                    refine y_MO_readGroup_115 (m_thrown := m_thrown) (m_taped := m_taped) (m_length := m_length) (m_out := m_out) (m_wide := m_wide) (m_gathered := m_gathered) (m_sets := m_sets) (m_ranges := m_ranges) (m_nodes := m_nodes) (m_at := m_at) (m_flags := m_flags) (m_fault := m_fault) (m_place := m_place) (m_numbered := m_numbered) (m_depth := m_depth) (m_value := m_value) (m_isNot := m_isNot) (m_least0 := m_least0) (m_most0 := m_most0) (m_slot := m_slot) (m_work := m_work) (m_got := m_got) (m_rowMany := m_rowMany) (m_charAt := m_charAt) (m_charWide := m_charWide) (m_trail := m_trail) (m_isMatch := m_isMatch) (m_matchGroups := m_matchGroups) (m_allFrom := m_allFrom) (m_allBefore := m_allBefore) (m_founds := m_founds) (m_pieces := m_pieces) (m_writtenMany := m_writtenMany) (m_templateWide := m_templateWide) (m_tooMuch := m_tooMuch) (A_tape := A_tape) (wh := m_at) (G0 := G9) (nw := nw210) (k := (k211 + 1)) (by omega) jtp (by omega) (by omega) (Int.toNat (m_taped - m_at - (k211 + 1)) + 1) h80 h84 (by omega) fx.rf rfl rfl (by omega) (fun G56 nw257 k258 hq59 hfk hlk hsk => ?_)
                    · have h80 := hfk.get h80 (by decide)
                      have h84 := hfk.get h84 (by decide)
                      have h87 := hfk.get h87 (by decide)
                      have h88 := hfk.get h88 (by decide)
                      have h93 := hfk.get h93 (by decide)
                      have h81 := hfk.get h81 (by decide)
                      have h82 := hfk.get h82 (by decide)
                      have h91 := hfk.get h91 (by decide)
                      have h92 := hfk.get h92 (by decide)
                      have h110 := hfk.get h110 (by decide)
                      have h111 := hfk.get h111 (by decide)
                      have ptrI_0 := trI.fr hfk ptrI_0 (by decide) (by decide) (by decide) (by decide) (by decide) (by decide) (by decide) (by decide) (by decide) (by decide) (by decide) (by decide) (by decide) (by decide) (by decide) (by decide) (by decide) (by decide)
                      have hfr := hfr.tr hfk (by decide)
                      have hlen := hlk.trans hlen
                      have hsl := hsk.trans hsl
                      change ab_W _ _ _ G56 145 [some (vR 80), some (vz m_at), some (vz nw257), some (vz k258), none] [] _
                      refine ab_aload_n d_MO_readGroup_145 rfl ?_
                      refine ab_iload_n d_MO_readGroup_146 rfl ?_
                      refine ab_callV (d' := d - 1) (as := [vz k258]) (st := []) (r := _) (z_MO_here (o := o) (m_thrown := m_thrown) (m_taped := m_taped) (m_length := m_length) (m_out := m_out) (m_wide := m_wide) (m_gathered := m_gathered) (m_sets := m_sets) (m_ranges := m_ranges) (m_nodes := m_nodes) (m_at := m_at) (m_flags := m_flags) (m_fault := m_fault) (m_place := m_place) (m_numbered := m_numbered) (m_depth := m_depth) (m_value := m_value) (m_isNot := m_isNot) (m_least0 := m_least0) (m_most0 := m_most0) (m_slot := m_slot) (m_work := m_work) (m_got := m_got) (m_rowMany := m_rowMany) (m_charAt := m_charAt) (m_charWide := m_charWide) (m_trail := m_trail) (m_isMatch := m_isMatch) (m_matchGroups := m_matchGroups) (m_allFrom := m_allFrom) (m_allBefore := m_allBefore) (m_founds := m_founds) (m_pieces := m_pieces) (m_writtenMany := m_writtenMany) (m_templateWide := m_templateWide) (m_tooMuch := m_tooMuch) (A_tape := A_tape) (k := k258) h80 h84 (by omega) (by omega) jtp (by omega)) (fun oc G2 h => by rcases h with ⟨h, _⟩ | ⟨h, _⟩ <;> exact ⟨_, h⟩) (by omega) m_MO_here ml_MO_297 im_MO_here se_MO_here c_MO h80.2.2 (Nat.le_of_ble_eq_true rfl) d_MO_readGroup_147 rfl ?_
                      intro v G60 hq
                      rcases hq with ⟨hv, hGe, hq61⟩ | ⟨hv, hGe, hq62⟩
                      · cases hv
                        rw [hGe]
                        change ab_W _ _ _ G56 150 [some (vR 80), some (vz m_at), some (vz nw257), some (vz k258), none] [vz (A_tape (m_at + k258))] _
                        refine ab_istore d_MO_readGroup_150 (Nat.le_of_ble_eq_true rfl) (Nat.le_of_ble_eq_true rfl) rfl ?_
                        change ab_W _ _ _ G56 152 [some (vR 80), some (vz m_at), some (vz nw257), some (vz k258), some (vz (A_tape (m_at + k258)))] [] _
                        refine ab_iload d_MO_readGroup_152 rfl ?_
                        refine zz_bipush d_MO_readGroup_154 (by decide) ?_
                        refine zz_icmp_eq (tgt := 176) d_MO_readGroup_156 (by decide) (by omega) (by decide) (fun c63 => ?_) (fun c63 => ?_)
                        · refine ab_iload d_MO_readGroup_176 rfl ?_
                          refine zz_bipush d_MO_readGroup_178 (by decide) ?_
                          refine zz_icmp_ne (tgt := 199) d_MO_readGroup_180 (by decide) (by omega) (by decide) (fun c64 => absurd c64 (by omega)) (fun c64 => ?_)
                          refine ab_aload_n d_MO_readGroup_183 rfl ?_
                          refine ab_getf (fs := mof m_thrown m_taped m_length m_out m_wide m_gathered m_sets m_ranges m_nodes m_at m_flags m_fault m_place m_numbered m_depth m_value m_isNot m_least0 m_most0 m_slot m_work m_got m_rowMany m_charAt m_charWide m_trail m_isMatch m_matchGroups m_allFrom m_allBefore m_founds m_pieces m_writtenMany m_templateWide m_tooMuch) f_MO_282 d_MO_readGroup_184 h80.2.2 rfl ?_
                          refine zz_bipush d_MO_readGroup_187 (by decide) ?_
                          refine zz_icmp_ne (tgt := 199) d_MO_readGroup_189 (by decide) (by omega) (by decide) (fun c65 => ?_) (fun c65 => ?_)
                          · refine ab_aload_n d_MO_readGroup_199 rfl ?_
                            refine ab_getf (fs := mof m_thrown m_taped m_length m_out m_wide m_gathered m_sets m_ranges m_nodes m_at m_flags m_fault m_place m_numbered m_depth m_value m_isNot m_least0 m_most0 m_slot m_work m_got m_rowMany m_charAt m_charWide m_trail m_isMatch m_matchGroups m_allFrom m_allBefore m_founds m_pieces m_writtenMany m_templateWide m_tooMuch) f_MO_273 d_MO_readGroup_200 h80.2.2 rfl ?_
                            refine zz_if_le (tgt := 207) d_MO_readGroup_203 (by decide) (by omega) (fun c66 => ?_) (fun c66 => absurd c66 (by omega))
                            refine ab_aload_n d_MO_readGroup_207 rfl ?_
                            refine ab_dup d_MO_readGroup_208 rfl ?_
                            refine ab_getf (fs := mof m_thrown m_taped m_length m_out m_wide m_gathered m_sets m_ranges m_nodes m_at m_flags m_fault m_place m_numbered m_depth m_value m_isNot m_least0 m_most0 m_slot m_work m_got m_rowMany m_charAt m_charWide m_trail m_isMatch m_matchGroups m_allFrom m_allBefore m_founds m_pieces m_writtenMany m_templateWide m_tooMuch) f_MO_279 d_MO_readGroup_209 h80.2.2 rfl ?_
                            refine ab_iload_n d_MO_readGroup_212 rfl ?_
                            refine zz_iconst d_MO_readGroup_213 ?_
                            refine zz_iadd d_MO_readGroup_214 ?_
                            refine zz_iadd d_MO_readGroup_215 ?_
                            refine ab_putf (fs := mof m_thrown m_taped m_length m_out m_wide m_gathered m_sets m_ranges m_nodes m_at m_flags m_fault m_place m_numbered m_depth m_value m_isNot m_least0 m_most0 m_slot m_work m_got m_rowMany m_charAt m_charWide m_trail m_isMatch m_matchGroups m_allFrom m_allBefore m_founds m_pieces m_writtenMany m_templateWide m_tooMuch) f_MO_279 (Or.inl rfl) d_MO_readGroup_216 h80.2.2 (Nat.le_of_ble_eq_true rfl) (fun _ => ⟨rfl, rfl⟩) (h80.2.1 (by decide)) ?_
                            obtain ⟨G67, eG67⟩ : ∃ z : ab_G, z = List.set G56 80 (ab_ob 12 (mof m_thrown m_taped m_length m_out m_wide m_gathered m_sets m_ranges m_nodes (m_at + (k258 + 1)) m_flags m_fault m_place m_numbered m_depth m_value m_isNot m_least0 m_most0 m_slot m_work m_got m_rowMany m_charAt m_charWide m_trail m_isMatch m_matchGroups m_allFrom m_allBefore m_founds m_pieces m_writtenMany m_templateWide m_tooMuch)) := ⟨_, rfl⟩
                            have h84 := h84.keep h80 eG67 (by decide)
                            have h87 := h87.keep h80 eG67 (by decide)
                            have h88 := h88.keep h80 eG67 (by decide)
                            have h93 := h93.keep h80 eG67 (by decide)
                            have h81 := h81.keep h80 eG67 (by decide)
                            have h82 := h82.keep h80 eG67 (by decide)
                            have h91 := h91.keep h80 eG67 (by decide)
                            have h92 := h92.keep h80 eG67 (by decide)
                            have h110 := h110.keep h80 eG67 (by decide)
                            have h111 := h111.keep h80 eG67 (by decide)
                            have hst := (fx.rf (o := o) (S := [280]) (G := G56)).wr h80 eG67 (List.mem_singleton.mpr rfl)
                            have ptrI_0 := trI.fr hst ptrI_0 (by decide) (by decide) (by decide) (by decide) (by decide) (by decide) (by decide) (by decide) (by decide) (by decide) (by decide) (by decide) (by decide) (by decide) (by decide) (by decide) (by decide) (by decide)
                            have hlen := (z_len eG67).trans hlen
                            have hsl := (z_sl h80 eG67 rfl).trans hsl
                            have hfr := hfr.wr h80 eG67 (by decide)
                            have h80 := h80.kept eG67
                            change ab_W _ _ _ (List.set G56 80 (ab_ob 12 (mof m_thrown m_taped m_length m_out m_wide m_gathered m_sets m_ranges m_nodes (m_at + (k258 + 1)) m_flags m_fault m_place m_numbered m_depth m_value m_isNot m_least0 m_most0 m_slot m_work m_got m_rowMany m_charAt m_charWide m_trail m_isMatch m_matchGroups m_allFrom m_allBefore m_founds m_pieces m_writtenMany m_templateWide m_tooMuch))) 219 [some (vR 80), some (vz m_at), some (vz nw257), some (vz k258), some (vz (A_tape (m_at + k258)))] [] _
                            rw [← eG67]
                            refine ab_iload d_MO_readGroup_219 rfl ?_
                            refine zz_bipush d_MO_readGroup_221 (by decide) ?_
                            refine zz_icmp_ne (tgt := 244) d_MO_readGroup_223 (by decide) (by omega) (by decide) (fun c68 => ?_) (fun c68 => absurd c68 (by omega))
                            refine ab_aload_n d_MO_readGroup_244 rfl ?_
                            refine ab_dup d_MO_readGroup_245 rfl ?_
                            refine ab_getf (fs := mof m_thrown m_taped m_length m_out m_wide m_gathered m_sets m_ranges m_nodes (m_at + (k258 + 1)) m_flags m_fault m_place m_numbered m_depth m_value m_isNot m_least0 m_most0 m_slot m_work m_got m_rowMany m_charAt m_charWide m_trail m_isMatch m_matchGroups m_allFrom m_allBefore m_founds m_pieces m_writtenMany m_templateWide m_tooMuch) f_MO_282 d_MO_readGroup_246 h80.2.2 rfl ?_
                            refine zz_iconst d_MO_readGroup_249 ?_
                            refine zz_iadd d_MO_readGroup_250 ?_
                            refine ab_putf (fs := mof m_thrown m_taped m_length m_out m_wide m_gathered m_sets m_ranges m_nodes (m_at + (k258 + 1)) m_flags m_fault m_place m_numbered m_depth m_value m_isNot m_least0 m_most0 m_slot m_work m_got m_rowMany m_charAt m_charWide m_trail m_isMatch m_matchGroups m_allFrom m_allBefore m_founds m_pieces m_writtenMany m_templateWide m_tooMuch) f_MO_282 (Or.inl rfl) d_MO_readGroup_251 h80.2.2 (Nat.le_of_ble_eq_true rfl) (fun _ => ⟨rfl, rfl⟩) (h80.2.1 (by decide)) ?_
                            obtain ⟨G69, eG69⟩ : ∃ z : ab_G, z = List.set G67 80 (ab_ob 12 (mof m_thrown m_taped m_length m_out m_wide m_gathered m_sets m_ranges m_nodes (m_at + (k258 + 1)) m_flags m_fault m_place m_numbered (m_depth + 1) m_value m_isNot m_least0 m_most0 m_slot m_work m_got m_rowMany m_charAt m_charWide m_trail m_isMatch m_matchGroups m_allFrom m_allBefore m_founds m_pieces m_writtenMany m_templateWide m_tooMuch)) := ⟨_, rfl⟩
                            have h84 := h84.keep h80 eG69 (by decide)
                            have h87 := h87.keep h80 eG69 (by decide)
                            have h88 := h88.keep h80 eG69 (by decide)
                            have h93 := h93.keep h80 eG69 (by decide)
                            have h81 := h81.keep h80 eG69 (by decide)
                            have h82 := h82.keep h80 eG69 (by decide)
                            have h91 := h91.keep h80 eG69 (by decide)
                            have h92 := h92.keep h80 eG69 (by decide)
                            have h110 := h110.keep h80 eG69 (by decide)
                            have h111 := h111.keep h80 eG69 (by decide)
                            have hst := (fx.rf (o := o) (S := [280]) (G := G67)).wr h80 eG69 (List.mem_singleton.mpr rfl)
                            have ptrI_0 := trI.fr hst ptrI_0 (by decide) (by decide) (by decide) (by decide) (by decide) (by decide) (by decide) (by decide) (by decide) (by decide) (by decide) (by decide) (by decide) (by decide) (by decide) (by decide) (by decide) (by decide)
                            have hlen := (z_len eG69).trans hlen
                            have hsl := (z_sl h80 eG69 rfl).trans hsl
                            have hfr := hfr.wr h80 eG69 (by decide)
                            have h80 := h80.kept eG69
                            change ab_W _ _ _ (List.set G67 80 (ab_ob 12 (mof m_thrown m_taped m_length m_out m_wide m_gathered m_sets m_ranges m_nodes (m_at + (k258 + 1)) m_flags m_fault m_place m_numbered (m_depth + 1) m_value m_isNot m_least0 m_most0 m_slot m_work m_got m_rowMany m_charAt m_charWide m_trail m_isMatch m_matchGroups m_allFrom m_allBefore m_founds m_pieces m_writtenMany m_templateWide m_tooMuch))) 254 [some (vR 80), some (vz m_at), some (vz nw257), some (vz k258), some (vz (A_tape (m_at + k258)))] [] _
                            rw [← eG69]
                            refine ab_aload_n d_MO_readGroup_254 rfl ?_
                            refine ab_iload_n d_MO_readGroup_255 rfl ?_
                            refine ab_aload_n d_MO_readGroup_256 rfl ?_
                            refine ab_getf (fs := mof m_thrown m_taped m_length m_out m_wide m_gathered m_sets m_ranges m_nodes (m_at + (k258 + 1)) m_flags m_fault m_place m_numbered (m_depth + 1) m_value m_isNot m_least0 m_most0 m_slot m_work m_got m_rowMany m_charAt m_charWide m_trail m_isMatch m_matchGroups m_allFrom m_allBefore m_founds m_pieces m_writtenMany m_templateWide m_tooMuch) f_MO_276 d_MO_readGroup_257 h80.2.2 rfl ?_
                            refine zz_iconst d_MO_readGroup_260 ?_
                            refine ab_callV (d' := d - 1) (as := [vz m_at, vz m_flags, vz 0]) (st := []) (r := _) (z_MO_openGroup (o := o) (m_thrown := m_thrown) (m_taped := m_taped) (m_length := m_length) (m_out := m_out) (m_wide := m_wide) (m_gathered := m_gathered) (m_sets := m_sets) (m_ranges := m_ranges) (m_nodes := m_nodes) (m_at := (m_at + (k258 + 1))) (m_flags := m_flags) (m_fault := m_fault) (m_place := m_place) (m_numbered := m_numbered) (m_depth := (m_depth + 1)) (m_value := m_value) (m_isNot := m_isNot) (m_least0 := m_least0) (m_most0 := m_most0) (m_slot := m_slot) (m_work := m_work) (m_got := m_got) (m_rowMany := m_rowMany) (m_charAt := m_charAt) (m_charWide := m_charWide) (m_trail := m_trail) (m_isMatch := m_isMatch) (m_matchGroups := m_matchGroups) (m_allFrom := m_allFrom) (m_allBefore := m_allBefore) (m_founds := m_founds) (m_pieces := m_pieces) (m_writtenMany := m_writtenMany) (m_templateWide := m_templateWide) (m_tooMuch := m_tooMuch) (x := m_at) (y := m_flags) (w := 0) (dn := (-1)) (dh := 0) (re_ := 0) h80 ptrI_0 (by omega) (by omega) (by omega) (by omega)) (fun oc G2 h => by rcases h with ⟨h, _⟩ <;> exact ⟨_, h⟩) (by omega) m_MO_openGroup ml_MO_392 im_MO_openGroup se_MO_openGroup c_MO h80.2.2 (Nat.le_of_ble_eq_true rfl) d_MO_readGroup_261 rfl ?_
                            intro v G70 hq
                            rcases hq with ⟨hv, hfk, hlk, hsk, pNtrI_0⟩
                            cases hv
                            have h80 := hfk.get h80 (by decide)
                            have h84 := hfk.get h84 (by decide)
                            have h87 := hfk.get h87 (by decide)
                            have h88 := hfk.get h88 (by decide)
                            have h93 := hfk.get h93 (by decide)
                            have h81 := hfk.get h81 (by decide)
                            have h82 := hfk.get h82 (by decide)
                            have h91 := hfk.get h91 (by decide)
                            have h92 := hfk.get h92 (by decide)
                            have h110 := hfk.get h110 (by decide)
                            have h111 := hfk.get h111 (by decide)
                            have ptrI_0 := pNtrI_0
                            have hfr := hfr.tr hfk (by decide)
                            have hlen := hlk.trans hlen
                            have hsl := hsk.trans hsl
                            change ab_W _ _ _ G70 264 [some (vR 80), some (vz m_at), some (vz nw257), some (vz k258), some (vz (A_tape (m_at + k258)))] [] _
                            refine ab_aload_n d_MO_readGroup_264 rfl ?_
                            refine ab_iload_n d_MO_readGroup_265 rfl ?_
                            refine ab_putf (fs := mof m_thrown m_taped m_length m_out m_wide m_gathered m_sets m_ranges m_nodes (m_at + (k258 + 1)) m_flags m_fault m_place m_numbered (m_depth + 1) m_value m_isNot m_least0 m_most0 m_slot m_work m_got m_rowMany m_charAt m_charWide m_trail m_isMatch m_matchGroups m_allFrom m_allBefore m_founds m_pieces m_writtenMany m_templateWide m_tooMuch) f_MO_276 (Or.inl rfl) d_MO_readGroup_266 h80.2.2 (Nat.le_of_ble_eq_true rfl) (fun _ => ⟨rfl, rfl⟩) (h80.2.1 (by decide)) ?_
                            obtain ⟨G71, eG71⟩ : ∃ z : ab_G, z = List.set G70 80 (ab_ob 12 (mof m_thrown m_taped m_length m_out m_wide m_gathered m_sets m_ranges m_nodes (m_at + (k258 + 1)) nw257 m_fault m_place m_numbered (m_depth + 1) m_value m_isNot m_least0 m_most0 m_slot m_work m_got m_rowMany m_charAt m_charWide m_trail m_isMatch m_matchGroups m_allFrom m_allBefore m_founds m_pieces m_writtenMany m_templateWide m_tooMuch)) := ⟨_, rfl⟩
                            have h84 := h84.keep h80 eG71 (by decide)
                            have h87 := h87.keep h80 eG71 (by decide)
                            have h88 := h88.keep h80 eG71 (by decide)
                            have h93 := h93.keep h80 eG71 (by decide)
                            have h81 := h81.keep h80 eG71 (by decide)
                            have h82 := h82.keep h80 eG71 (by decide)
                            have h91 := h91.keep h80 eG71 (by decide)
                            have h92 := h92.keep h80 eG71 (by decide)
                            have h110 := h110.keep h80 eG71 (by decide)
                            have h111 := h111.keep h80 eG71 (by decide)
                            have hst := (fx.rf (o := o) (S := [280]) (G := G70)).wr h80 eG71 (List.mem_singleton.mpr rfl)
                            have ptrI_0 := trI.fr hst ptrI_0 (by decide) (by decide) (by decide) (by decide) (by decide) (by decide) (by decide) (by decide) (by decide) (by decide) (by decide) (by decide) (by decide) (by decide) (by decide) (by decide) (by decide) (by decide)
                            have hlen := (z_len eG71).trans hlen
                            have hsl := (z_sl h80 eG71 rfl).trans hsl
                            have hfr := hfr.wr h80 eG71 (by decide)
                            have h80 := h80.kept eG71
                            change ab_W _ _ _ (List.set G70 80 (ab_ob 12 (mof m_thrown m_taped m_length m_out m_wide m_gathered m_sets m_ranges m_nodes (m_at + (k258 + 1)) nw257 m_fault m_place m_numbered (m_depth + 1) m_value m_isNot m_least0 m_most0 m_slot m_work m_got m_rowMany m_charAt m_charWide m_trail m_isMatch m_matchGroups m_allFrom m_allBefore m_founds m_pieces m_writtenMany m_templateWide m_tooMuch))) 269 [some (vR 80), some (vz m_at), some (vz nw257), some (vz k258), some (vz (A_tape (m_at + k258)))] [] _
                            rw [← eG71]
                            refine ab_vret rfl d_MO_readGroup_269 ?_
                            rw [hQ]; exact (Or.inl ⟨_, _, _, _, _, _, _, _, _, _, _, _, _, _, _, _, _, _, _, _, _, _, rfl, hfr, hlen, hsl, h80, h87, h88, h93, h91, h92, h110, h111, ptrI_0, (by omega), (by first | exact jmk | exact rgs_w jmk (by omega)), (by first | exact jrl | exact rgs_w jrl (by omega)), (by first | exact jrh | exact rgs_w jrh (by omega)), (by first | exact jns | exact rgs_w jns (by omega)), (by first | exact jnm | exact rgs_w jnm (by omega))⟩)
                          · refine ab_aload_n d_MO_readGroup_192 rfl ?_
                            refine zz_bipush d_MO_readGroup_193 (by decide) ?_
                            refine ab_iload_n d_MO_readGroup_195 rfl ?_
                            refine ab_callV (d' := d - 1) (as := [vz 12, vz m_at]) (st := []) (r := _) (z_MO_wrong (o := o) (m_thrown := m_thrown) (m_taped := m_taped) (m_length := m_length) (m_out := m_out) (m_wide := m_wide) (m_gathered := m_gathered) (m_sets := m_sets) (m_ranges := m_ranges) (m_nodes := m_nodes) (m_at := m_at) (m_flags := m_flags) (m_fault := m_fault) (m_place := m_place) (m_numbered := m_numbered) (m_depth := m_depth) (m_value := m_value) (m_isNot := m_isNot) (m_least0 := m_least0) (m_most0 := m_most0) (m_slot := m_slot) (m_work := m_work) (m_got := m_got) (m_rowMany := m_rowMany) (m_charAt := m_charAt) (m_charWide := m_charWide) (m_trail := m_trail) (m_isMatch := m_isMatch) (m_matchGroups := m_matchGroups) (m_allFrom := m_allFrom) (m_allBefore := m_allBefore) (m_founds := m_founds) (m_pieces := m_pieces) (m_writtenMany := m_writtenMany) (m_templateWide := m_templateWide) (m_tooMuch := m_tooMuch) (x := 12) (y := m_at) h80 (by omega) (by omega)) (fun oc G2 h => by rcases h with ⟨_, _, h, _⟩ <;> exact ⟨_, h⟩) (by omega) m_MO_wrong ml_MO_304 im_MO_wrong se_MO_wrong c_MO h80.2.2 (Nat.le_of_ble_eq_true rfl) d_MO_readGroup_196 rfl ?_
                            intro v G72 hq
                            rcases hq with ⟨f273, p274, hv, hfk, hlk, hsk, hN80, hq75⟩
                            cases hv
                            have h84 := hfk.get h84 (by decide)
                            have h87 := hfk.get h87 (by decide)
                            have h88 := hfk.get h88 (by decide)
                            have h93 := hfk.get h93 (by decide)
                            have h81 := hfk.get h81 (by decide)
                            have h82 := hfk.get h82 (by decide)
                            have h91 := hfk.get h91 (by decide)
                            have h92 := hfk.get h92 (by decide)
                            have h110 := hfk.get h110 (by decide)
                            have h111 := hfk.get h111 (by decide)
                            have ptrI_0 := trI.fr hfk ptrI_0 (by decide) (by decide) (by decide) (by decide) (by decide) (by decide) (by decide) (by decide) (by decide) (by decide) (by decide) (by decide) (by decide) (by decide) (by decide) (by decide) (by decide) (by decide)
                            have hfr := hfr.tr hfk (by decide)
                            have hlen := hlk.trans hlen
                            have hsl := hsk.trans hsl
                            have h80 := hN80
                            change ab_W _ _ _ G72 199 [some (vR 80), some (vz m_at), some (vz nw257), some (vz k258), some (vz (A_tape (m_at + k258)))] [] _
                            refine ab_aload_n d_MO_readGroup_199 rfl ?_
                            refine ab_getf (fs := mof m_thrown m_taped m_length m_out m_wide m_gathered m_sets m_ranges m_nodes m_at m_flags f273 p274 m_numbered m_depth m_value m_isNot m_least0 m_most0 m_slot m_work m_got m_rowMany m_charAt m_charWide m_trail m_isMatch m_matchGroups m_allFrom m_allBefore m_founds m_pieces m_writtenMany m_templateWide m_tooMuch) f_MO_273 d_MO_readGroup_200 h80.2.2 rfl ?_
                            refine zz_if_le (tgt := 207) d_MO_readGroup_203 (by decide) (by omega) (fun c76 => absurd c76 (by omega)) (fun c76 => ?_)
                            refine ab_vret rfl d_MO_readGroup_206 ?_
                            rw [hQ]; exact (Or.inr ⟨_, _, _, _, _, _, _, _, _, _, _, _, _, _, _, _, _, _, _, _, _, _, rfl, hfr, hlen, hsl, h80, h87, h88, h93, h91, h92, h110, h111, ptrI_0, (by omega), (by first | exact jmk | exact rgs_w jmk (by omega)), (by first | exact jrl | exact rgs_w jrl (by omega)), (by first | exact jrh | exact rgs_w jrh (by omega)), (by first | exact jns | exact rgs_w jns (by omega)), (by first | exact jnm | exact rgs_w jnm (by omega))⟩)
                        · replace c63 : nzq (A_tape (m_at + k258)) 58 := c63
                          refine ab_iload d_MO_readGroup_159 rfl ?_
                          refine zz_bipush d_MO_readGroup_161 (by decide) ?_
                          refine zz_icmp_eq (tgt := 176) d_MO_readGroup_163 (by decide) (by omega) (by decide) (fun c77 => ?_) (fun c77 => ?_)
                          · refine ab_iload d_MO_readGroup_176 rfl ?_
                            refine zz_bipush d_MO_readGroup_178 (by decide) ?_
                            refine zz_icmp_ne (tgt := 199) d_MO_readGroup_180 (by decide) (by omega) (by decide) (fun c78 => ?_) (fun c78 => absurd c78 (by omega))
                            refine ab_aload_n d_MO_readGroup_199 rfl ?_
                            refine ab_getf (fs := mof m_thrown m_taped m_length m_out m_wide m_gathered m_sets m_ranges m_nodes m_at m_flags m_fault m_place m_numbered m_depth m_value m_isNot m_least0 m_most0 m_slot m_work m_got m_rowMany m_charAt m_charWide m_trail m_isMatch m_matchGroups m_allFrom m_allBefore m_founds m_pieces m_writtenMany m_templateWide m_tooMuch) f_MO_273 d_MO_readGroup_200 h80.2.2 rfl ?_
                            refine zz_if_le (tgt := 207) d_MO_readGroup_203 (by decide) (by omega) (fun c79 => ?_) (fun c79 => absurd c79 (by omega))
                            refine ab_aload_n d_MO_readGroup_207 rfl ?_
                            refine ab_dup d_MO_readGroup_208 rfl ?_
                            refine ab_getf (fs := mof m_thrown m_taped m_length m_out m_wide m_gathered m_sets m_ranges m_nodes m_at m_flags m_fault m_place m_numbered m_depth m_value m_isNot m_least0 m_most0 m_slot m_work m_got m_rowMany m_charAt m_charWide m_trail m_isMatch m_matchGroups m_allFrom m_allBefore m_founds m_pieces m_writtenMany m_templateWide m_tooMuch) f_MO_279 d_MO_readGroup_209 h80.2.2 rfl ?_
                            refine ab_iload_n d_MO_readGroup_212 rfl ?_
                            refine zz_iconst d_MO_readGroup_213 ?_
                            refine zz_iadd d_MO_readGroup_214 ?_
                            refine zz_iadd d_MO_readGroup_215 ?_
                            refine ab_putf (fs := mof m_thrown m_taped m_length m_out m_wide m_gathered m_sets m_ranges m_nodes m_at m_flags m_fault m_place m_numbered m_depth m_value m_isNot m_least0 m_most0 m_slot m_work m_got m_rowMany m_charAt m_charWide m_trail m_isMatch m_matchGroups m_allFrom m_allBefore m_founds m_pieces m_writtenMany m_templateWide m_tooMuch) f_MO_279 (Or.inl rfl) d_MO_readGroup_216 h80.2.2 (Nat.le_of_ble_eq_true rfl) (fun _ => ⟨rfl, rfl⟩) (h80.2.1 (by decide)) ?_
                            obtain ⟨G80, eG80⟩ : ∃ z : ab_G, z = List.set G56 80 (ab_ob 12 (mof m_thrown m_taped m_length m_out m_wide m_gathered m_sets m_ranges m_nodes (m_at + (k258 + 1)) m_flags m_fault m_place m_numbered m_depth m_value m_isNot m_least0 m_most0 m_slot m_work m_got m_rowMany m_charAt m_charWide m_trail m_isMatch m_matchGroups m_allFrom m_allBefore m_founds m_pieces m_writtenMany m_templateWide m_tooMuch)) := ⟨_, rfl⟩
                            have h84 := h84.keep h80 eG80 (by decide)
                            have h87 := h87.keep h80 eG80 (by decide)
                            have h88 := h88.keep h80 eG80 (by decide)
                            have h93 := h93.keep h80 eG80 (by decide)
                            have h81 := h81.keep h80 eG80 (by decide)
                            have h82 := h82.keep h80 eG80 (by decide)
                            have h91 := h91.keep h80 eG80 (by decide)
                            have h92 := h92.keep h80 eG80 (by decide)
                            have h110 := h110.keep h80 eG80 (by decide)
                            have h111 := h111.keep h80 eG80 (by decide)
                            have hst := (fx.rf (o := o) (S := [280]) (G := G56)).wr h80 eG80 (List.mem_singleton.mpr rfl)
                            have ptrI_0 := trI.fr hst ptrI_0 (by decide) (by decide) (by decide) (by decide) (by decide) (by decide) (by decide) (by decide) (by decide) (by decide) (by decide) (by decide) (by decide) (by decide) (by decide) (by decide) (by decide) (by decide)
                            have hlen := (z_len eG80).trans hlen
                            have hsl := (z_sl h80 eG80 rfl).trans hsl
                            have hfr := hfr.wr h80 eG80 (by decide)
                            have h80 := h80.kept eG80
                            change ab_W _ _ _ (List.set G56 80 (ab_ob 12 (mof m_thrown m_taped m_length m_out m_wide m_gathered m_sets m_ranges m_nodes (m_at + (k258 + 1)) m_flags m_fault m_place m_numbered m_depth m_value m_isNot m_least0 m_most0 m_slot m_work m_got m_rowMany m_charAt m_charWide m_trail m_isMatch m_matchGroups m_allFrom m_allBefore m_founds m_pieces m_writtenMany m_templateWide m_tooMuch))) 219 [some (vR 80), some (vz m_at), some (vz nw257), some (vz k258), some (vz (A_tape (m_at + k258)))] [] _
                            rw [← eG80]
                            refine ab_iload d_MO_readGroup_219 rfl ?_
                            refine zz_bipush d_MO_readGroup_221 (by decide) ?_
                            refine zz_icmp_ne (tgt := 244) d_MO_readGroup_223 (by decide) (by omega) (by decide) (fun c81 => absurd c81 (by omega)) (fun c81 => ?_)
                            refine ab_aload_n d_MO_readGroup_226 rfl ?_
                            refine ab_iload_n d_MO_readGroup_227 rfl ?_
                            refine ab_putf (fs := mof m_thrown m_taped m_length m_out m_wide m_gathered m_sets m_ranges m_nodes (m_at + (k258 + 1)) m_flags m_fault m_place m_numbered m_depth m_value m_isNot m_least0 m_most0 m_slot m_work m_got m_rowMany m_charAt m_charWide m_trail m_isMatch m_matchGroups m_allFrom m_allBefore m_founds m_pieces m_writtenMany m_templateWide m_tooMuch) f_MO_276 (Or.inl rfl) d_MO_readGroup_228 h80.2.2 (Nat.le_of_ble_eq_true rfl) (fun _ => ⟨rfl, rfl⟩) (h80.2.1 (by decide)) ?_
                            obtain ⟨G82, eG82⟩ : ∃ z : ab_G, z = List.set G80 80 (ab_ob 12 (mof m_thrown m_taped m_length m_out m_wide m_gathered m_sets m_ranges m_nodes (m_at + (k258 + 1)) nw257 m_fault m_place m_numbered m_depth m_value m_isNot m_least0 m_most0 m_slot m_work m_got m_rowMany m_charAt m_charWide m_trail m_isMatch m_matchGroups m_allFrom m_allBefore m_founds m_pieces m_writtenMany m_templateWide m_tooMuch)) := ⟨_, rfl⟩
                            have h84 := h84.keep h80 eG82 (by decide)
                            have h87 := h87.keep h80 eG82 (by decide)
                            have h88 := h88.keep h80 eG82 (by decide)
                            have h93 := h93.keep h80 eG82 (by decide)
                            have h81 := h81.keep h80 eG82 (by decide)
                            have h82 := h82.keep h80 eG82 (by decide)
                            have h91 := h91.keep h80 eG82 (by decide)
                            have h92 := h92.keep h80 eG82 (by decide)
                            have h110 := h110.keep h80 eG82 (by decide)
                            have h111 := h111.keep h80 eG82 (by decide)
                            have hst := (fx.rf (o := o) (S := [280]) (G := G80)).wr h80 eG82 (List.mem_singleton.mpr rfl)
                            have ptrI_0 := trI.fr hst ptrI_0 (by decide) (by decide) (by decide) (by decide) (by decide) (by decide) (by decide) (by decide) (by decide) (by decide) (by decide) (by decide) (by decide) (by decide) (by decide) (by decide) (by decide) (by decide)
                            have hlen := (z_len eG82).trans hlen
                            have hsl := (z_sl h80 eG82 rfl).trans hsl
                            have hfr := hfr.wr h80 eG82 (by decide)
                            have h80 := h80.kept eG82
                            change ab_W _ _ _ (List.set G80 80 (ab_ob 12 (mof m_thrown m_taped m_length m_out m_wide m_gathered m_sets m_ranges m_nodes (m_at + (k258 + 1)) nw257 m_fault m_place m_numbered m_depth m_value m_isNot m_least0 m_most0 m_slot m_work m_got m_rowMany m_charAt m_charWide m_trail m_isMatch m_matchGroups m_allFrom m_allBefore m_founds m_pieces m_writtenMany m_templateWide m_tooMuch))) 231 [some (vR 80), some (vz m_at), some (vz nw257), some (vz k258), some (vz (A_tape (m_at + k258)))] [] _
                            rw [← eG82]
                            obtain ⟨K, O, Fi, Be, Le, Mo, Z, LZ, SM, SA, QF, QL, AF, AL, SD, OA, OF, ON, h94, h95, h96, h97, h98, h99, h100, h101, h90, h89, h105, h106, h107, h108, h109, h102, h103, h104, jk, jo, jfi, jbe, jle, jmo, jz, jlz, jsm, jsa, jqf, jql, jaf, jal, jsd, joa, jof, jon, jt, cnd, cre, crs, crz, ck5, ck6, jss⟩ := ptrI_0
                            refine ab_aload_n d_MO_readGroup_231 rfl ?_
                            refine ab_aload_n d_MO_readGroup_232 rfl ?_
                            refine zz_iconst d_MO_readGroup_233 ?_
                            refine zz_iconst d_MO_readGroup_234 ?_
                            refine zz_lconst d_MO_readGroup_235 ?_
                            change ab_W _ _ _ G82 236 [some (vR 80), some (vz m_at), some (vz nw257), some (vz k258), some (vz (A_tape (m_at + k258)))] [vj 0, vz 0, vz 0, vR 80, vR 80] _
                            refine ab_callV (d' := d - 1) (as := [vz 0, vz 0, vj 0]) (st := [vR 80]) (r := _) (z_MO_node (o := o) (m_thrown := m_thrown) (m_taped := m_taped) (m_length := m_length) (m_out := m_out) (m_wide := m_wide) (m_gathered := m_gathered) (m_sets := m_sets) (m_ranges := m_ranges) (m_nodes := m_nodes) (m_at := (m_at + (k258 + 1))) (m_flags := nw257) (m_fault := m_fault) (m_place := m_place) (m_numbered := m_numbered) (m_depth := m_depth) (m_value := m_value) (m_isNot := m_isNot) (m_least0 := m_least0) (m_most0 := m_most0) (m_slot := m_slot) (m_work := m_work) (m_got := m_got) (m_rowMany := m_rowMany) (m_charAt := m_charAt) (m_charWide := m_charWide) (m_trail := m_trail) (m_isMatch := m_isMatch) (m_matchGroups := m_matchGroups) (m_allFrom := m_allFrom) (m_allBefore := m_allBefore) (m_founds := m_founds) (m_pieces := m_pieces) (m_writtenMany := m_writtenMany) (m_templateWide := m_templateWide) (m_tooMuch := m_tooMuch) (K := K) (O := O) (Fi := Fi) (Be := Be) (Z := Z) (k := 0) (w := 0) (zs := 0) h80 h94 h95 h96 h97 h100 (by omega) (by omega)) (fun oc G2 h => by rcases h with ⟨h, _⟩ <;> exact ⟨_, h⟩) (by omega) m_MO_node ml_MO_269 im_MO_node se_MO_node c_MO h80.2.2 (Nat.le_of_ble_eq_true rfl) d_MO_readGroup_236 rfl ?_
                            intro v G83 hq
                            rcases hq with ⟨hv, hfk, hlk, hsk, hN80, hN94, hN95, hN96, hN97, hN100⟩
                            cases hv
                            have h84 := hfk.get h84 (by decide)
                            have h87 := hfk.get h87 (by decide)
                            have h88 := hfk.get h88 (by decide)
                            have h93 := hfk.get h93 (by decide)
                            have h81 := hfk.get h81 (by decide)
                            have h82 := hfk.get h82 (by decide)
                            have h91 := hfk.get h91 (by decide)
                            have h92 := hfk.get h92 (by decide)
                            have h110 := hfk.get h110 (by decide)
                            have h111 := hfk.get h111 (by decide)
                            have h98 := hfk.get h98 (by decide)
                            have h99 := hfk.get h99 (by decide)
                            have h101 := hfk.get h101 (by decide)
                            have h90 := hfk.get h90 (by decide)
                            have h89 := hfk.get h89 (by decide)
                            have h105 := hfk.get h105 (by decide)
                            have h106 := hfk.get h106 (by decide)
                            have h107 := hfk.get h107 (by decide)
                            have h108 := hfk.get h108 (by decide)
                            have h109 := hfk.get h109 (by decide)
                            have h102 := hfk.get h102 (by decide)
                            have h103 := hfk.get h103 (by decide)
                            have h104 := hfk.get h104 (by decide)
                            have hfr := hfr.tr hfk (by decide)
                            have hlen := hlk.trans hlen
                            have hsl := hsk.trans hsl
                            have h80 := hN80
                            have h94 := hN94
                            have h95 := hN95
                            have h96 := hN96
                            have h97 := hN97
                            have h100 := hN100
                            change ab_W _ _ _ G83 239 [some (vR 80), some (vz m_at), some (vz nw257), some (vz k258), some (vz (A_tape (m_at + k258)))] [vz m_nodes, vR 80] _
                            have ptrI_0 : trI o G83 0 (m_nodes + 1) m_sets (m_depth + 1) m_nodes 0 6 := ⟨(zu K m_nodes 0), (zu O m_nodes 0), (zu Fi m_nodes (-1)), (zu Be m_nodes (-1)), Le, Mo, (zu Z m_nodes 0), LZ, SM, SA, QF, QL, AF, AL, SD, OA, OF, ON, h94, h95, h96, h97, h98, h99, h100, h101, h90, h89, h105, h106, h107, h108, h109, h102, h103, h104, (rgs_zu jk (by omega)), (rgs_zu jo (by omega)), (rgs_zu jfi (by omega)), (rgs_zu jbe (by omega)), jle, jmo, (rgs_zu jz (by omega)), jlz, jsm, jsa, jqf, jql, jaf, jal, jsd, joa, jof, jon, (rtr_leaf jt (by omega) (Or.inl ⟨rfl, rfl⟩)), (by omega), (fun h => absurd h (by decide)), (fun h => absurd h (by decide)), (fun h => absurd h (by decide)), (fun h => absurd h (by decide)), (fun _ => by rw [zu_self]; decide), jss⟩
                            refine zz_iconst d_MO_readGroup_239 ?_
                            refine ab_callV (d' := d - 1) (as := [vz m_nodes, vz 2]) (st := []) (r := _) (z_MO_part (o := o) (m_thrown := m_thrown) (m_taped := m_taped) (m_length := m_length) (m_out := m_out) (m_wide := m_wide) (m_gathered := m_gathered) (m_sets := m_sets) (m_ranges := m_ranges) (m_nodes := (m_nodes + 1)) (m_at := (m_at + (k258 + 1))) (m_flags := nw257) (m_fault := m_fault) (m_place := m_place) (m_numbered := m_numbered) (m_depth := m_depth) (m_value := m_value) (m_isNot := m_isNot) (m_least0 := m_least0) (m_most0 := m_most0) (m_slot := m_slot) (m_work := m_work) (m_got := m_got) (m_rowMany := m_rowMany) (m_charAt := m_charAt) (m_charWide := m_charWide) (m_trail := m_trail) (m_isMatch := m_isMatch) (m_matchGroups := m_matchGroups) (m_allFrom := m_allFrom) (m_allBefore := m_allBefore) (m_founds := m_founds) (m_pieces := m_pieces) (m_writtenMany := m_writtenMany) (m_templateWide := m_templateWide) (m_tooMuch := m_tooMuch) (x := m_nodes) (s := 2) (dh := 0) h80 ptrI_0 (by omega) (by omega) (by omega) (by omega)) (fun oc G2 h => by rcases h with ⟨h, _⟩ <;> exact ⟨_, h⟩) (by omega) m_MO_part ml_MO_375 im_MO_part se_MO_part c_MO h80.2.2 (Nat.le_of_ble_eq_true rfl) d_MO_readGroup_240 rfl ?_
                            intro v G84 hq
                            rcases hq with ⟨hv, hfk, hlk, hsk, pNtrI_0⟩
                            cases hv
                            have h80 := hfk.get h80 (by decide)
                            have h84 := hfk.get h84 (by decide)
                            have h87 := hfk.get h87 (by decide)
                            have h88 := hfk.get h88 (by decide)
                            have h93 := hfk.get h93 (by decide)
                            have h81 := hfk.get h81 (by decide)
                            have h82 := hfk.get h82 (by decide)
                            have h91 := hfk.get h91 (by decide)
                            have h92 := hfk.get h92 (by decide)
                            have h110 := hfk.get h110 (by decide)
                            have h111 := hfk.get h111 (by decide)
                            have ptrI_0 := pNtrI_0
                            have hfr := hfr.tr hfk (by decide)
                            have hlen := hlk.trans hlen
                            have hsl := hsk.trans hsl
                            change ab_W _ _ _ G84 243 [some (vR 80), some (vz m_at), some (vz nw257), some (vz k258), some (vz (A_tape (m_at + k258)))] [] _
                            refine ab_vret rfl d_MO_readGroup_243 ?_
                            rw [hQ]; exact (Or.inl ⟨_, _, _, _, _, _, _, _, _, _, _, _, _, _, _, _, _, _, _, _, _, _, rfl, hfr, hlen, hsl, h80, h87, h88, h93, h91, h92, h110, h111, ptrI_0, (by omega), (by first | exact jmk | exact rgs_w jmk (by omega)), (by first | exact jrl | exact rgs_w jrl (by omega)), (by first | exact jrh | exact rgs_w jrh (by omega)), (by first | exact jns | exact rgs_w jns (by omega)), (by first | exact jnm | exact rgs_w jnm (by omega))⟩)
                          · replace c77 : nzq (A_tape (m_at + k258)) 41 := c77
                            refine ab_aload_n d_MO_readGroup_166 rfl ?_
                            refine zz_bipush d_MO_readGroup_167 (by decide) ?_
                            refine ab_iload_n d_MO_readGroup_169 rfl ?_
                            refine ab_callV (d' := d - 1) (as := [vz 10, vz m_at]) (st := []) (r := _) (z_MO_wrong (o := o) (m_thrown := m_thrown) (m_taped := m_taped) (m_length := m_length) (m_out := m_out) (m_wide := m_wide) (m_gathered := m_gathered) (m_sets := m_sets) (m_ranges := m_ranges) (m_nodes := m_nodes) (m_at := m_at) (m_flags := m_flags) (m_fault := m_fault) (m_place := m_place) (m_numbered := m_numbered) (m_depth := m_depth) (m_value := m_value) (m_isNot := m_isNot) (m_least0 := m_least0) (m_most0 := m_most0) (m_slot := m_slot) (m_work := m_work) (m_got := m_got) (m_rowMany := m_rowMany) (m_charAt := m_charAt) (m_charWide := m_charWide) (m_trail := m_trail) (m_isMatch := m_isMatch) (m_matchGroups := m_matchGroups) (m_allFrom := m_allFrom) (m_allBefore := m_allBefore) (m_founds := m_founds) (m_pieces := m_pieces) (m_writtenMany := m_writtenMany) (m_templateWide := m_templateWide) (m_tooMuch := m_tooMuch) (x := 10) (y := m_at) h80 (by omega) (by omega)) (fun oc G2 h => by rcases h with ⟨_, _, h, _⟩ <;> exact ⟨_, h⟩) (by omega) m_MO_wrong ml_MO_304 im_MO_wrong se_MO_wrong c_MO h80.2.2 (Nat.le_of_ble_eq_true rfl) d_MO_readGroup_170 rfl ?_
                            intro v G85 hq
                            rcases hq with ⟨f286, p287, hv, hfk, hlk, hsk, hN80, hq88⟩
                            cases hv
                            have h84 := hfk.get h84 (by decide)
                            have h87 := hfk.get h87 (by decide)
                            have h88 := hfk.get h88 (by decide)
                            have h93 := hfk.get h93 (by decide)
                            have h81 := hfk.get h81 (by decide)
                            have h82 := hfk.get h82 (by decide)
                            have h91 := hfk.get h91 (by decide)
                            have h92 := hfk.get h92 (by decide)
                            have h110 := hfk.get h110 (by decide)
                            have h111 := hfk.get h111 (by decide)
                            have ptrI_0 := trI.fr hfk ptrI_0 (by decide) (by decide) (by decide) (by decide) (by decide) (by decide) (by decide) (by decide) (by decide) (by decide) (by decide) (by decide) (by decide) (by decide) (by decide) (by decide) (by decide) (by decide)
                            have hfr := hfr.tr hfk (by decide)
                            have hlen := hlk.trans hlen
                            have hsl := hsk.trans hsl
                            have h80 := hN80
                            change ab_W _ _ _ G85 173 [some (vR 80), some (vz m_at), some (vz nw257), some (vz k258), some (vz (A_tape (m_at + k258)))] [] _
                            refine ab_goto (tgt := 199) d_MO_readGroup_173 (by decide) ?_
                            refine ab_aload_n d_MO_readGroup_199 rfl ?_
                            refine ab_getf (fs := mof m_thrown m_taped m_length m_out m_wide m_gathered m_sets m_ranges m_nodes m_at m_flags f286 p287 m_numbered m_depth m_value m_isNot m_least0 m_most0 m_slot m_work m_got m_rowMany m_charAt m_charWide m_trail m_isMatch m_matchGroups m_allFrom m_allBefore m_founds m_pieces m_writtenMany m_templateWide m_tooMuch) f_MO_273 d_MO_readGroup_200 h80.2.2 rfl ?_
                            refine zz_if_le (tgt := 207) d_MO_readGroup_203 (by decide) (by omega) (fun c89 => absurd c89 (by omega)) (fun c89 => ?_)
                            refine ab_vret rfl d_MO_readGroup_206 ?_
                            rw [hQ]; exact (Or.inr ⟨_, _, _, _, _, _, _, _, _, _, _, _, _, _, _, _, _, _, _, _, _, _, rfl, hfr, hlen, hsl, h80, h87, h88, h93, h91, h92, h110, h111, ptrI_0, (by omega), (by first | exact jmk | exact rgs_w jmk (by omega)), (by first | exact jrl | exact rgs_w jrl (by omega)), (by first | exact jrh | exact rgs_w jrh (by omega)), (by first | exact jns | exact rgs_w jns (by omega)), (by first | exact jnm | exact rgs_w jnm (by omega))⟩)
                      · cases hv
                        rw [hGe]
                        change ab_W _ _ _ G56 150 [some (vR 80), some (vz m_at), some (vz nw257), some (vz k258), none] [vz (-1)] _
                        refine ab_istore d_MO_readGroup_150 (Nat.le_of_ble_eq_true rfl) (Nat.le_of_ble_eq_true rfl) rfl ?_
                        change ab_W _ _ _ G56 152 [some (vR 80), some (vz m_at), some (vz nw257), some (vz k258), some (vz (-1))] [] _
                        refine ab_iload d_MO_readGroup_152 rfl ?_
                        refine zz_bipush d_MO_readGroup_154 (by decide) ?_
                        refine zz_icmp_eq (tgt := 176) d_MO_readGroup_156 (by decide) (by decide) (by decide) (fun c90 => absurd c90 (by decide)) (fun c90 => ?_)
                        refine ab_iload d_MO_readGroup_159 rfl ?_
                        refine zz_bipush d_MO_readGroup_161 (by decide) ?_
                        refine zz_icmp_eq (tgt := 176) d_MO_readGroup_163 (by decide) (by decide) (by decide) (fun c91 => absurd c91 (by decide)) (fun c91 => ?_)
                        refine ab_aload_n d_MO_readGroup_166 rfl ?_
                        refine zz_bipush d_MO_readGroup_167 (by decide) ?_
                        refine ab_iload_n d_MO_readGroup_169 rfl ?_
                        refine ab_callV (d' := d - 1) (as := [vz 10, vz m_at]) (st := []) (r := _) (z_MO_wrong (o := o) (m_thrown := m_thrown) (m_taped := m_taped) (m_length := m_length) (m_out := m_out) (m_wide := m_wide) (m_gathered := m_gathered) (m_sets := m_sets) (m_ranges := m_ranges) (m_nodes := m_nodes) (m_at := m_at) (m_flags := m_flags) (m_fault := m_fault) (m_place := m_place) (m_numbered := m_numbered) (m_depth := m_depth) (m_value := m_value) (m_isNot := m_isNot) (m_least0 := m_least0) (m_most0 := m_most0) (m_slot := m_slot) (m_work := m_work) (m_got := m_got) (m_rowMany := m_rowMany) (m_charAt := m_charAt) (m_charWide := m_charWide) (m_trail := m_trail) (m_isMatch := m_isMatch) (m_matchGroups := m_matchGroups) (m_allFrom := m_allFrom) (m_allBefore := m_allBefore) (m_founds := m_founds) (m_pieces := m_pieces) (m_writtenMany := m_writtenMany) (m_templateWide := m_templateWide) (m_tooMuch := m_tooMuch) (x := 10) (y := m_at) h80 (by omega) (by omega)) (fun oc G2 h => by rcases h with ⟨_, _, h, _⟩ <;> exact ⟨_, h⟩) (by omega) m_MO_wrong ml_MO_304 im_MO_wrong se_MO_wrong c_MO h80.2.2 (Nat.le_of_ble_eq_true rfl) d_MO_readGroup_170 rfl ?_
                        intro v G92 hq
                        rcases hq with ⟨f293, p294, hv, hfk, hlk, hsk, hN80, hq95⟩
                        cases hv
                        have h84 := hfk.get h84 (by decide)
                        have h87 := hfk.get h87 (by decide)
                        have h88 := hfk.get h88 (by decide)
                        have h93 := hfk.get h93 (by decide)
                        have h81 := hfk.get h81 (by decide)
                        have h82 := hfk.get h82 (by decide)
                        have h91 := hfk.get h91 (by decide)
                        have h92 := hfk.get h92 (by decide)
                        have h110 := hfk.get h110 (by decide)
                        have h111 := hfk.get h111 (by decide)
                        have ptrI_0 := trI.fr hfk ptrI_0 (by decide) (by decide) (by decide) (by decide) (by decide) (by decide) (by decide) (by decide) (by decide) (by decide) (by decide) (by decide) (by decide) (by decide) (by decide) (by decide) (by decide) (by decide)
                        have hfr := hfr.tr hfk (by decide)
                        have hlen := hlk.trans hlen
                        have hsl := hsk.trans hsl
                        have h80 := hN80
                        change ab_W _ _ _ G92 173 [some (vR 80), some (vz m_at), some (vz nw257), some (vz k258), some (vz (-1))] [] _
                        refine ab_goto (tgt := 199) d_MO_readGroup_173 (by decide) ?_
                        refine ab_aload_n d_MO_readGroup_199 rfl ?_
                        refine ab_getf (fs := mof m_thrown m_taped m_length m_out m_wide m_gathered m_sets m_ranges m_nodes m_at m_flags f293 p294 m_numbered m_depth m_value m_isNot m_least0 m_most0 m_slot m_work m_got m_rowMany m_charAt m_charWide m_trail m_isMatch m_matchGroups m_allFrom m_allBefore m_founds m_pieces m_writtenMany m_templateWide m_tooMuch) f_MO_273 d_MO_readGroup_200 h80.2.2 rfl ?_
                        refine zz_if_le (tgt := 207) d_MO_readGroup_203 (by decide) (by omega) (fun c96 => absurd c96 (by omega)) (fun c96 => ?_)
                        refine ab_vret rfl d_MO_readGroup_206 ?_
                        rw [hQ]; exact (Or.inr ⟨_, _, _, _, _, _, _, _, _, _, _, _, _, _, _, _, _, _, _, _, _, _, rfl, hfr, hlen, hsl, h80, h87, h88, h93, h91, h92, h110, h111, ptrI_0, (by omega), (by first | exact jmk | exact rgs_w jmk (by omega)), (by first | exact jrl | exact rgs_w jrl (by omega)), (by first | exact jrh | exact rgs_w jrh (by omega)), (by first | exact jns | exact rgs_w jns (by omega)), (by first | exact jnm | exact rgs_w jnm (by omega))⟩)
                  · refine ab_aload_n d_MO_readGroup_108 rfl ?_
                    refine zz_bipush d_MO_readGroup_109 (by decide) ?_
                    refine ab_iload_n d_MO_readGroup_111 rfl ?_
                    refine ab_callV (d' := d - 1) (as := [vz 10, vz m_at]) (st := []) (r := _) (z_MO_wrong (o := o) (m_thrown := m_thrown) (m_taped := m_taped) (m_length := m_length) (m_out := m_out) (m_wide := m_wide) (m_gathered := m_gathered) (m_sets := m_sets) (m_ranges := m_ranges) (m_nodes := m_nodes) (m_at := m_at) (m_flags := m_flags) (m_fault := m_fault) (m_place := m_place) (m_numbered := m_numbered) (m_depth := m_depth) (m_value := m_value) (m_isNot := m_isNot) (m_least0 := m_least0) (m_most0 := m_most0) (m_slot := m_slot) (m_work := m_work) (m_got := m_got) (m_rowMany := m_rowMany) (m_charAt := m_charAt) (m_charWide := m_charWide) (m_trail := m_trail) (m_isMatch := m_isMatch) (m_matchGroups := m_matchGroups) (m_allFrom := m_allFrom) (m_allBefore := m_allBefore) (m_founds := m_founds) (m_pieces := m_pieces) (m_writtenMany := m_writtenMany) (m_templateWide := m_templateWide) (m_tooMuch := m_tooMuch) (x := 10) (y := m_at) h80 (by omega) (by omega)) (fun oc G2 h => by rcases h with ⟨_, _, h, _⟩ <;> exact ⟨_, h⟩) (by omega) m_MO_wrong ml_MO_304 im_MO_wrong se_MO_wrong c_MO h80.2.2 (Nat.le_of_ble_eq_true rfl) d_MO_readGroup_112 rfl ?_
                    intro v G97 hq
                    rcases hq with ⟨f298, p299, hv, hfk, hlk, hsk, hN80, hq100⟩
                    cases hv
                    have h84 := hfk.get h84 (by decide)
                    have h87 := hfk.get h87 (by decide)
                    have h88 := hfk.get h88 (by decide)
                    have h93 := hfk.get h93 (by decide)
                    have h81 := hfk.get h81 (by decide)
                    have h82 := hfk.get h82 (by decide)
                    have h91 := hfk.get h91 (by decide)
                    have h92 := hfk.get h92 (by decide)
                    have h110 := hfk.get h110 (by decide)
                    have h111 := hfk.get h111 (by decide)
                    have ptrI_0 := trI.fr hfk ptrI_0 (by decide) (by decide) (by decide) (by decide) (by decide) (by decide) (by decide) (by decide) (by decide) (by decide) (by decide) (by decide) (by decide) (by decide) (by decide) (by decide) (by decide) (by decide)
                    have hfr := hfr.tr hfk (by decide)
                    have hlen := hlk.trans hlen
                    have hsl := hsk.trans hsl
                    have h80 := hN80
                    change ab_W _ _ _ G97 115 [some (vR 80), some (vz m_at), some (vz nw210), some (vz (k211 + 1)), none] [] _
                    refine y_MO_readGroup_115 (m_thrown := m_thrown) (m_taped := m_taped) (m_length := m_length) (m_out := m_out) (m_wide := m_wide) (m_gathered := m_gathered) (m_sets := m_sets) (m_ranges := m_ranges) (m_nodes := m_nodes) (m_at := m_at) (m_flags := m_flags) (m_fault := f298) (m_place := p299) (m_numbered := m_numbered) (m_depth := m_depth) (m_value := m_value) (m_isNot := m_isNot) (m_least0 := m_least0) (m_most0 := m_most0) (m_slot := m_slot) (m_work := m_work) (m_got := m_got) (m_rowMany := m_rowMany) (m_charAt := m_charAt) (m_charWide := m_charWide) (m_trail := m_trail) (m_isMatch := m_isMatch) (m_matchGroups := m_matchGroups) (m_allFrom := m_allFrom) (m_allBefore := m_allBefore) (m_founds := m_founds) (m_pieces := m_pieces) (m_writtenMany := m_writtenMany) (m_templateWide := m_templateWide) (m_tooMuch := m_tooMuch) (A_tape := A_tape) (wh := m_at) (G0 := G97) (nw := nw210) (k := (k211 + 1)) (by omega) jtp (by omega) (by omega) (Int.toNat (m_taped - m_at - (k211 + 1)) + 1) h80 h84 (by omega) fx.rf rfl rfl (by omega) (fun G101 nw2102 k2103 hq104 hfk hlk hsk => ?_)
                    · have h80 := hfk.get h80 (by decide)
                      have h84 := hfk.get h84 (by decide)
                      have h87 := hfk.get h87 (by decide)
                      have h88 := hfk.get h88 (by decide)
                      have h93 := hfk.get h93 (by decide)
                      have h81 := hfk.get h81 (by decide)
                      have h82 := hfk.get h82 (by decide)
                      have h91 := hfk.get h91 (by decide)
                      have h92 := hfk.get h92 (by decide)
                      have h110 := hfk.get h110 (by decide)
                      have h111 := hfk.get h111 (by decide)
                      have ptrI_0 := trI.fr hfk ptrI_0 (by decide) (by decide) (by decide) (by decide) (by decide) (by decide) (by decide) (by decide) (by decide) (by decide) (by decide) (by decide) (by decide) (by decide) (by decide) (by decide) (by decide) (by decide)
                      have hfr := hfr.tr hfk (by decide)
                      have hlen := hlk.trans hlen
                      have hsl := hsk.trans hsl
                      change ab_W _ _ _ G101 145 [some (vR 80), some (vz m_at), some (vz nw2102), some (vz k2103), none] [] _
                      refine ab_aload_n d_MO_readGroup_145 rfl ?_
                      refine ab_iload_n d_MO_readGroup_146 rfl ?_
                      refine ab_callV (d' := d - 1) (as := [vz k2103]) (st := []) (r := _) (z_MO_here (o := o) (m_thrown := m_thrown) (m_taped := m_taped) (m_length := m_length) (m_out := m_out) (m_wide := m_wide) (m_gathered := m_gathered) (m_sets := m_sets) (m_ranges := m_ranges) (m_nodes := m_nodes) (m_at := m_at) (m_flags := m_flags) (m_fault := f298) (m_place := p299) (m_numbered := m_numbered) (m_depth := m_depth) (m_value := m_value) (m_isNot := m_isNot) (m_least0 := m_least0) (m_most0 := m_most0) (m_slot := m_slot) (m_work := m_work) (m_got := m_got) (m_rowMany := m_rowMany) (m_charAt := m_charAt) (m_charWide := m_charWide) (m_trail := m_trail) (m_isMatch := m_isMatch) (m_matchGroups := m_matchGroups) (m_allFrom := m_allFrom) (m_allBefore := m_allBefore) (m_founds := m_founds) (m_pieces := m_pieces) (m_writtenMany := m_writtenMany) (m_templateWide := m_templateWide) (m_tooMuch := m_tooMuch) (A_tape := A_tape) (k := k2103) h80 h84 (by omega) (by omega) jtp (by omega)) (fun oc G2 h => by rcases h with ⟨h, _⟩ | ⟨h, _⟩ <;> exact ⟨_, h⟩) (by omega) m_MO_here ml_MO_297 im_MO_here se_MO_here c_MO h80.2.2 (Nat.le_of_ble_eq_true rfl) d_MO_readGroup_147 rfl ?_
                      intro v G105 hq
                      rcases hq with ⟨hv, hGe, hq106⟩ | ⟨hv, hGe, hq107⟩
                      · cases hv
                        rw [hGe]
                        change ab_W _ _ _ G101 150 [some (vR 80), some (vz m_at), some (vz nw2102), some (vz k2103), none] [vz (A_tape (m_at + k2103))] _
                        refine ab_istore d_MO_readGroup_150 (Nat.le_of_ble_eq_true rfl) (Nat.le_of_ble_eq_true rfl) rfl ?_
                        change ab_W _ _ _ G101 152 [some (vR 80), some (vz m_at), some (vz nw2102), some (vz k2103), some (vz (A_tape (m_at + k2103)))] [] _
                        refine ab_iload d_MO_readGroup_152 rfl ?_
                        refine zz_bipush d_MO_readGroup_154 (by decide) ?_
                        refine zz_icmp_eq (tgt := 176) d_MO_readGroup_156 (by decide) (by omega) (by decide) (fun c108 => ?_) (fun c108 => ?_)
                        · refine ab_iload d_MO_readGroup_176 rfl ?_
                          refine zz_bipush d_MO_readGroup_178 (by decide) ?_
                          refine zz_icmp_ne (tgt := 199) d_MO_readGroup_180 (by decide) (by omega) (by decide) (fun c109 => absurd c109 (by omega)) (fun c109 => ?_)
                          refine ab_aload_n d_MO_readGroup_183 rfl ?_
                          refine ab_getf (fs := mof m_thrown m_taped m_length m_out m_wide m_gathered m_sets m_ranges m_nodes m_at m_flags f298 p299 m_numbered m_depth m_value m_isNot m_least0 m_most0 m_slot m_work m_got m_rowMany m_charAt m_charWide m_trail m_isMatch m_matchGroups m_allFrom m_allBefore m_founds m_pieces m_writtenMany m_templateWide m_tooMuch) f_MO_282 d_MO_readGroup_184 h80.2.2 rfl ?_
                          refine zz_bipush d_MO_readGroup_187 (by decide) ?_
                          refine zz_icmp_ne (tgt := 199) d_MO_readGroup_189 (by decide) (by omega) (by decide) (fun c110 => ?_) (fun c110 => ?_)
                          · refine ab_aload_n d_MO_readGroup_199 rfl ?_
                            refine ab_getf (fs := mof m_thrown m_taped m_length m_out m_wide m_gathered m_sets m_ranges m_nodes m_at m_flags f298 p299 m_numbered m_depth m_value m_isNot m_least0 m_most0 m_slot m_work m_got m_rowMany m_charAt m_charWide m_trail m_isMatch m_matchGroups m_allFrom m_allBefore m_founds m_pieces m_writtenMany m_templateWide m_tooMuch) f_MO_273 d_MO_readGroup_200 h80.2.2 rfl ?_
                            refine zz_if_le (tgt := 207) d_MO_readGroup_203 (by decide) (by omega) (fun c111 => absurd c111 (by omega)) (fun c111 => ?_)
                            refine ab_vret rfl d_MO_readGroup_206 ?_
                            rw [hQ]; exact (Or.inr ⟨_, _, _, _, _, _, _, _, _, _, _, _, _, _, _, _, _, _, _, _, _, _, rfl, hfr, hlen, hsl, h80, h87, h88, h93, h91, h92, h110, h111, ptrI_0, (by omega), (by first | exact jmk | exact rgs_w jmk (by omega)), (by first | exact jrl | exact rgs_w jrl (by omega)), (by first | exact jrh | exact rgs_w jrh (by omega)), (by first | exact jns | exact rgs_w jns (by omega)), (by first | exact jnm | exact rgs_w jnm (by omega))⟩)
                          · refine ab_aload_n d_MO_readGroup_192 rfl ?_
                            refine zz_bipush d_MO_readGroup_193 (by decide) ?_
                            refine ab_iload_n d_MO_readGroup_195 rfl ?_
                            refine ab_callV (d' := d - 1) (as := [vz 12, vz m_at]) (st := []) (r := _) (z_MO_wrong (o := o) (m_thrown := m_thrown) (m_taped := m_taped) (m_length := m_length) (m_out := m_out) (m_wide := m_wide) (m_gathered := m_gathered) (m_sets := m_sets) (m_ranges := m_ranges) (m_nodes := m_nodes) (m_at := m_at) (m_flags := m_flags) (m_fault := f298) (m_place := p299) (m_numbered := m_numbered) (m_depth := m_depth) (m_value := m_value) (m_isNot := m_isNot) (m_least0 := m_least0) (m_most0 := m_most0) (m_slot := m_slot) (m_work := m_work) (m_got := m_got) (m_rowMany := m_rowMany) (m_charAt := m_charAt) (m_charWide := m_charWide) (m_trail := m_trail) (m_isMatch := m_isMatch) (m_matchGroups := m_matchGroups) (m_allFrom := m_allFrom) (m_allBefore := m_allBefore) (m_founds := m_founds) (m_pieces := m_pieces) (m_writtenMany := m_writtenMany) (m_templateWide := m_templateWide) (m_tooMuch := m_tooMuch) (x := 12) (y := m_at) h80 (by omega) (by omega)) (fun oc G2 h => by rcases h with ⟨_, _, h, _⟩ <;> exact ⟨_, h⟩) (by omega) m_MO_wrong ml_MO_304 im_MO_wrong se_MO_wrong c_MO h80.2.2 (Nat.le_of_ble_eq_true rfl) d_MO_readGroup_196 rfl ?_
                            intro v G112 hq
                            rcases hq with ⟨f2113, p2114, hv, hfk, hlk, hsk, hN80, hq115⟩
                            cases hv
                            have h84 := hfk.get h84 (by decide)
                            have h87 := hfk.get h87 (by decide)
                            have h88 := hfk.get h88 (by decide)
                            have h93 := hfk.get h93 (by decide)
                            have h81 := hfk.get h81 (by decide)
                            have h82 := hfk.get h82 (by decide)
                            have h91 := hfk.get h91 (by decide)
                            have h92 := hfk.get h92 (by decide)
                            have h110 := hfk.get h110 (by decide)
                            have h111 := hfk.get h111 (by decide)
                            have ptrI_0 := trI.fr hfk ptrI_0 (by decide) (by decide) (by decide) (by decide) (by decide) (by decide) (by decide) (by decide) (by decide) (by decide) (by decide) (by decide) (by decide) (by decide) (by decide) (by decide) (by decide) (by decide)
                            have hfr := hfr.tr hfk (by decide)
                            have hlen := hlk.trans hlen
                            have hsl := hsk.trans hsl
                            have h80 := hN80
                            change ab_W _ _ _ G112 199 [some (vR 80), some (vz m_at), some (vz nw2102), some (vz k2103), some (vz (A_tape (m_at + k2103)))] [] _
                            refine ab_aload_n d_MO_readGroup_199 rfl ?_
                            refine ab_getf (fs := mof m_thrown m_taped m_length m_out m_wide m_gathered m_sets m_ranges m_nodes m_at m_flags f2113 p2114 m_numbered m_depth m_value m_isNot m_least0 m_most0 m_slot m_work m_got m_rowMany m_charAt m_charWide m_trail m_isMatch m_matchGroups m_allFrom m_allBefore m_founds m_pieces m_writtenMany m_templateWide m_tooMuch) f_MO_273 d_MO_readGroup_200 h80.2.2 rfl ?_
                            refine zz_if_le (tgt := 207) d_MO_readGroup_203 (by decide) (by omega) (fun c116 => absurd c116 (by omega)) (fun c116 => ?_)
                            refine ab_vret rfl d_MO_readGroup_206 ?_
                            rw [hQ]; exact (Or.inr ⟨_, _, _, _, _, _, _, _, _, _, _, _, _, _, _, _, _, _, _, _, _, _, rfl, hfr, hlen, hsl, h80, h87, h88, h93, h91, h92, h110, h111, ptrI_0, (by omega), (by first | exact jmk | exact rgs_w jmk (by omega)), (by first | exact jrl | exact rgs_w jrl (by omega)), (by first | exact jrh | exact rgs_w jrh (by omega)), (by first | exact jns | exact rgs_w jns (by omega)), (by first | exact jnm | exact rgs_w jnm (by omega))⟩)
                        · replace c108 : nzq (A_tape (m_at + k2103)) 58 := c108
                          refine ab_iload d_MO_readGroup_159 rfl ?_
                          refine zz_bipush d_MO_readGroup_161 (by decide) ?_
                          refine zz_icmp_eq (tgt := 176) d_MO_readGroup_163 (by decide) (by omega) (by decide) (fun c117 => ?_) (fun c117 => ?_)
                          · refine ab_iload d_MO_readGroup_176 rfl ?_
                            refine zz_bipush d_MO_readGroup_178 (by decide) ?_
                            refine zz_icmp_ne (tgt := 199) d_MO_readGroup_180 (by decide) (by omega) (by decide) (fun c118 => ?_) (fun c118 => absurd c118 (by omega))
                            refine ab_aload_n d_MO_readGroup_199 rfl ?_
                            refine ab_getf (fs := mof m_thrown m_taped m_length m_out m_wide m_gathered m_sets m_ranges m_nodes m_at m_flags f298 p299 m_numbered m_depth m_value m_isNot m_least0 m_most0 m_slot m_work m_got m_rowMany m_charAt m_charWide m_trail m_isMatch m_matchGroups m_allFrom m_allBefore m_founds m_pieces m_writtenMany m_templateWide m_tooMuch) f_MO_273 d_MO_readGroup_200 h80.2.2 rfl ?_
                            refine zz_if_le (tgt := 207) d_MO_readGroup_203 (by decide) (by omega) (fun c119 => absurd c119 (by omega)) (fun c119 => ?_)
                            refine ab_vret rfl d_MO_readGroup_206 ?_
                            rw [hQ]; exact (Or.inr ⟨_, _, _, _, _, _, _, _, _, _, _, _, _, _, _, _, _, _, _, _, _, _, rfl, hfr, hlen, hsl, h80, h87, h88, h93, h91, h92, h110, h111, ptrI_0, (by omega), (by first | exact jmk | exact rgs_w jmk (by omega)), (by first | exact jrl | exact rgs_w jrl (by omega)), (by first | exact jrh | exact rgs_w jrh (by omega)), (by first | exact jns | exact rgs_w jns (by omega)), (by first | exact jnm | exact rgs_w jnm (by omega))⟩)
                          · replace c117 : nzq (A_tape (m_at + k2103)) 41 := c117
                            refine ab_aload_n d_MO_readGroup_166 rfl ?_
                            refine zz_bipush d_MO_readGroup_167 (by decide) ?_
                            refine ab_iload_n d_MO_readGroup_169 rfl ?_
                            refine ab_callV (d' := d - 1) (as := [vz 10, vz m_at]) (st := []) (r := _) (z_MO_wrong (o := o) (m_thrown := m_thrown) (m_taped := m_taped) (m_length := m_length) (m_out := m_out) (m_wide := m_wide) (m_gathered := m_gathered) (m_sets := m_sets) (m_ranges := m_ranges) (m_nodes := m_nodes) (m_at := m_at) (m_flags := m_flags) (m_fault := f298) (m_place := p299) (m_numbered := m_numbered) (m_depth := m_depth) (m_value := m_value) (m_isNot := m_isNot) (m_least0 := m_least0) (m_most0 := m_most0) (m_slot := m_slot) (m_work := m_work) (m_got := m_got) (m_rowMany := m_rowMany) (m_charAt := m_charAt) (m_charWide := m_charWide) (m_trail := m_trail) (m_isMatch := m_isMatch) (m_matchGroups := m_matchGroups) (m_allFrom := m_allFrom) (m_allBefore := m_allBefore) (m_founds := m_founds) (m_pieces := m_pieces) (m_writtenMany := m_writtenMany) (m_templateWide := m_templateWide) (m_tooMuch := m_tooMuch) (x := 10) (y := m_at) h80 (by omega) (by omega)) (fun oc G2 h => by rcases h with ⟨_, _, h, _⟩ <;> exact ⟨_, h⟩) (by omega) m_MO_wrong ml_MO_304 im_MO_wrong se_MO_wrong c_MO h80.2.2 (Nat.le_of_ble_eq_true rfl) d_MO_readGroup_170 rfl ?_
                            intro v G120 hq
                            rcases hq with ⟨f2121, p2122, hv, hfk, hlk, hsk, hN80, hq123⟩
                            cases hv
                            have h84 := hfk.get h84 (by decide)
                            have h87 := hfk.get h87 (by decide)
                            have h88 := hfk.get h88 (by decide)
                            have h93 := hfk.get h93 (by decide)
                            have h81 := hfk.get h81 (by decide)
                            have h82 := hfk.get h82 (by decide)
                            have h91 := hfk.get h91 (by decide)
                            have h92 := hfk.get h92 (by decide)
                            have h110 := hfk.get h110 (by decide)
                            have h111 := hfk.get h111 (by decide)
                            have ptrI_0 := trI.fr hfk ptrI_0 (by decide) (by decide) (by decide) (by decide) (by decide) (by decide) (by decide) (by decide) (by decide) (by decide) (by decide) (by decide) (by decide) (by decide) (by decide) (by decide) (by decide) (by decide)
                            have hfr := hfr.tr hfk (by decide)
                            have hlen := hlk.trans hlen
                            have hsl := hsk.trans hsl
                            have h80 := hN80
                            change ab_W _ _ _ G120 173 [some (vR 80), some (vz m_at), some (vz nw2102), some (vz k2103), some (vz (A_tape (m_at + k2103)))] [] _
                            refine ab_goto (tgt := 199) d_MO_readGroup_173 (by decide) ?_
                            refine ab_aload_n d_MO_readGroup_199 rfl ?_
                            refine ab_getf (fs := mof m_thrown m_taped m_length m_out m_wide m_gathered m_sets m_ranges m_nodes m_at m_flags f2121 p2122 m_numbered m_depth m_value m_isNot m_least0 m_most0 m_slot m_work m_got m_rowMany m_charAt m_charWide m_trail m_isMatch m_matchGroups m_allFrom m_allBefore m_founds m_pieces m_writtenMany m_templateWide m_tooMuch) f_MO_273 d_MO_readGroup_200 h80.2.2 rfl ?_
                            refine zz_if_le (tgt := 207) d_MO_readGroup_203 (by decide) (by omega) (fun c124 => absurd c124 (by omega)) (fun c124 => ?_)
                            refine ab_vret rfl d_MO_readGroup_206 ?_
                            rw [hQ]; exact (Or.inr ⟨_, _, _, _, _, _, _, _, _, _, _, _, _, _, _, _, _, _, _, _, _, _, rfl, hfr, hlen, hsl, h80, h87, h88, h93, h91, h92, h110, h111, ptrI_0, (by omega), (by first | exact jmk | exact rgs_w jmk (by omega)), (by first | exact jrl | exact rgs_w jrl (by omega)), (by first | exact jrh | exact rgs_w jrh (by omega)), (by first | exact jns | exact rgs_w jns (by omega)), (by first | exact jnm | exact rgs_w jnm (by omega))⟩)
                      · cases hv
                        rw [hGe]
                        change ab_W _ _ _ G101 150 [some (vR 80), some (vz m_at), some (vz nw2102), some (vz k2103), none] [vz (-1)] _
                        refine ab_istore d_MO_readGroup_150 (Nat.le_of_ble_eq_true rfl) (Nat.le_of_ble_eq_true rfl) rfl ?_
                        change ab_W _ _ _ G101 152 [some (vR 80), some (vz m_at), some (vz nw2102), some (vz k2103), some (vz (-1))] [] _
                        refine ab_iload d_MO_readGroup_152 rfl ?_
                        refine zz_bipush d_MO_readGroup_154 (by decide) ?_
                        refine zz_icmp_eq (tgt := 176) d_MO_readGroup_156 (by decide) (by decide) (by decide) (fun c125 => absurd c125 (by decide)) (fun c125 => ?_)
                        refine ab_iload d_MO_readGroup_159 rfl ?_
                        refine zz_bipush d_MO_readGroup_161 (by decide) ?_
                        refine zz_icmp_eq (tgt := 176) d_MO_readGroup_163 (by decide) (by decide) (by decide) (fun c126 => absurd c126 (by decide)) (fun c126 => ?_)
                        refine ab_aload_n d_MO_readGroup_166 rfl ?_
                        refine zz_bipush d_MO_readGroup_167 (by decide) ?_
                        refine ab_iload_n d_MO_readGroup_169 rfl ?_
                        refine ab_callV (d' := d - 1) (as := [vz 10, vz m_at]) (st := []) (r := _) (z_MO_wrong (o := o) (m_thrown := m_thrown) (m_taped := m_taped) (m_length := m_length) (m_out := m_out) (m_wide := m_wide) (m_gathered := m_gathered) (m_sets := m_sets) (m_ranges := m_ranges) (m_nodes := m_nodes) (m_at := m_at) (m_flags := m_flags) (m_fault := f298) (m_place := p299) (m_numbered := m_numbered) (m_depth := m_depth) (m_value := m_value) (m_isNot := m_isNot) (m_least0 := m_least0) (m_most0 := m_most0) (m_slot := m_slot) (m_work := m_work) (m_got := m_got) (m_rowMany := m_rowMany) (m_charAt := m_charAt) (m_charWide := m_charWide) (m_trail := m_trail) (m_isMatch := m_isMatch) (m_matchGroups := m_matchGroups) (m_allFrom := m_allFrom) (m_allBefore := m_allBefore) (m_founds := m_founds) (m_pieces := m_pieces) (m_writtenMany := m_writtenMany) (m_templateWide := m_templateWide) (m_tooMuch := m_tooMuch) (x := 10) (y := m_at) h80 (by omega) (by omega)) (fun oc G2 h => by rcases h with ⟨_, _, h, _⟩ <;> exact ⟨_, h⟩) (by omega) m_MO_wrong ml_MO_304 im_MO_wrong se_MO_wrong c_MO h80.2.2 (Nat.le_of_ble_eq_true rfl) d_MO_readGroup_170 rfl ?_
                        intro v G127 hq
                        rcases hq with ⟨f2128, p2129, hv, hfk, hlk, hsk, hN80, hq130⟩
                        cases hv
                        have h84 := hfk.get h84 (by decide)
                        have h87 := hfk.get h87 (by decide)
                        have h88 := hfk.get h88 (by decide)
                        have h93 := hfk.get h93 (by decide)
                        have h81 := hfk.get h81 (by decide)
                        have h82 := hfk.get h82 (by decide)
                        have h91 := hfk.get h91 (by decide)
                        have h92 := hfk.get h92 (by decide)
                        have h110 := hfk.get h110 (by decide)
                        have h111 := hfk.get h111 (by decide)
                        have ptrI_0 := trI.fr hfk ptrI_0 (by decide) (by decide) (by decide) (by decide) (by decide) (by decide) (by decide) (by decide) (by decide) (by decide) (by decide) (by decide) (by decide) (by decide) (by decide) (by decide) (by decide) (by decide)
                        have hfr := hfr.tr hfk (by decide)
                        have hlen := hlk.trans hlen
                        have hsl := hsk.trans hsl
                        have h80 := hN80
                        change ab_W _ _ _ G127 173 [some (vR 80), some (vz m_at), some (vz nw2102), some (vz k2103), some (vz (-1))] [] _
                        refine ab_goto (tgt := 199) d_MO_readGroup_173 (by decide) ?_
                        refine ab_aload_n d_MO_readGroup_199 rfl ?_
                        refine ab_getf (fs := mof m_thrown m_taped m_length m_out m_wide m_gathered m_sets m_ranges m_nodes m_at m_flags f2128 p2129 m_numbered m_depth m_value m_isNot m_least0 m_most0 m_slot m_work m_got m_rowMany m_charAt m_charWide m_trail m_isMatch m_matchGroups m_allFrom m_allBefore m_founds m_pieces m_writtenMany m_templateWide m_tooMuch) f_MO_273 d_MO_readGroup_200 h80.2.2 rfl ?_
                        refine zz_if_le (tgt := 207) d_MO_readGroup_203 (by decide) (by omega) (fun c131 => absurd c131 (by omega)) (fun c131 => ?_)
                        refine ab_vret rfl d_MO_readGroup_206 ?_
                        rw [hQ]; exact (Or.inr ⟨_, _, _, _, _, _, _, _, _, _, _, _, _, _, _, _, _, _, _, _, _, _, rfl, hfr, hlen, hsl, h80, h87, h88, h93, h91, h92, h110, h111, ptrI_0, (by omega), (by first | exact jmk | exact rgs_w jmk (by omega)), (by first | exact jrl | exact rgs_w jrl (by omega)), (by first | exact jrh | exact rgs_w jrh (by omega)), (by first | exact jns | exact rgs_w jns (by omega)), (by first | exact jnm | exact rgs_w jnm (by omega))⟩)
                · cases hv
                  rw [hGe]
                  change ab_W _ _ _ G9 102 [some (vR 80), some (vz m_at), some (vz nw210), some (vz (k211 + 1)), none] [vz (-1)] _
                  refine ab_callS (d' := d - 1) (as := [vz (-1)]) (st := []) (z_MO_flagOf (o := o) (c := (-1)) (by omega)) (fun oc G2 h => by rcases h with ⟨_, h, _⟩ <;> exact ⟨_, h⟩) (by omega) m_MO_flagOf ml_MO_389 st_MO_flagOf (Nat.le_of_ble_eq_true rfl) d_MO_readGroup_102 rfl ?_
                  intro v G132 hq
                  rcases hq with ⟨v133, hv, hGe, hq134, hq135, hq136⟩
                  cases hv
                  rw [hGe]
                  change ab_W _ _ _ G9 105 [some (vR 80), some (vz m_at), some (vz nw210), some (vz (k211 + 1)), none] [vz v133] _
                  refine zz_if_ne (tgt := 115) d_MO_readGroup_105 (by decide) (by omega) (fun c137 => ?_) (fun c137 => ?_)
                  · replace c137 : nzq v133 0 := c137
                    refine y_MO_readGroup_115 (m_thrown := m_thrown) (m_taped := m_taped) (m_length := m_length) (m_out := m_out) (m_wide := m_wide) (m_gathered := m_gathered) (m_sets := m_sets) (m_ranges := m_ranges) (m_nodes := m_nodes) (m_at := m_at) (m_flags := m_flags) (m_fault := m_fault) (m_place := m_place) (m_numbered := m_numbered) (m_depth := m_depth) (m_value := m_value) (m_isNot := m_isNot) (m_least0 := m_least0) (m_most0 := m_most0) (m_slot := m_slot) (m_work := m_work) (m_got := m_got) (m_rowMany := m_rowMany) (m_charAt := m_charAt) (m_charWide := m_charWide) (m_trail := m_trail) (m_isMatch := m_isMatch) (m_matchGroups := m_matchGroups) (m_allFrom := m_allFrom) (m_allBefore := m_allBefore) (m_founds := m_founds) (m_pieces := m_pieces) (m_writtenMany := m_writtenMany) (m_templateWide := m_templateWide) (m_tooMuch := m_tooMuch) (A_tape := A_tape) (wh := m_at) (G0 := G9) (nw := nw210) (k := (k211 + 1)) (by omega) jtp (by omega) (by omega) (Int.toNat (m_taped - m_at - (k211 + 1)) + 1) h80 h84 (by omega) fx.rf rfl rfl (by omega) (fun G138 nw2139 k2140 hq141 hfk hlk hsk => ?_)
                    · have h80 := hfk.get h80 (by decide)
                      have h84 := hfk.get h84 (by decide)
                      have h87 := hfk.get h87 (by decide)
                      have h88 := hfk.get h88 (by decide)
                      have h93 := hfk.get h93 (by decide)
                      have h81 := hfk.get h81 (by decide)
                      have h82 := hfk.get h82 (by decide)
                      have h91 := hfk.get h91 (by decide)
                      have h92 := hfk.get h92 (by decide)
                      have h110 := hfk.get h110 (by decide)
                      have h111 := hfk.get h111 (by decide)
                      have ptrI_0 := trI.fr hfk ptrI_0 (by decide) (by decide) (by decide) (by decide) (by decide) (by decide) (by decide) (by decide) (by decide) (by decide) (by decide) (by decide) (by decide) (by decide) (by decide) (by decide) (by decide) (by decide)
                      have hfr := hfr.tr hfk (by decide)
                      have hlen := hlk.trans hlen
                      have hsl := hsk.trans hsl
                      change ab_W _ _ _ G138 145 [some (vR 80), some (vz m_at), some (vz nw2139), some (vz k2140), none] [] _
                      refine ab_aload_n d_MO_readGroup_145 rfl ?_
                      refine ab_iload_n d_MO_readGroup_146 rfl ?_
                      refine ab_callV (d' := d - 1) (as := [vz k2140]) (st := []) (r := _) (z_MO_here (o := o) (m_thrown := m_thrown) (m_taped := m_taped) (m_length := m_length) (m_out := m_out) (m_wide := m_wide) (m_gathered := m_gathered) (m_sets := m_sets) (m_ranges := m_ranges) (m_nodes := m_nodes) (m_at := m_at) (m_flags := m_flags) (m_fault := m_fault) (m_place := m_place) (m_numbered := m_numbered) (m_depth := m_depth) (m_value := m_value) (m_isNot := m_isNot) (m_least0 := m_least0) (m_most0 := m_most0) (m_slot := m_slot) (m_work := m_work) (m_got := m_got) (m_rowMany := m_rowMany) (m_charAt := m_charAt) (m_charWide := m_charWide) (m_trail := m_trail) (m_isMatch := m_isMatch) (m_matchGroups := m_matchGroups) (m_allFrom := m_allFrom) (m_allBefore := m_allBefore) (m_founds := m_founds) (m_pieces := m_pieces) (m_writtenMany := m_writtenMany) (m_templateWide := m_templateWide) (m_tooMuch := m_tooMuch) (A_tape := A_tape) (k := k2140) h80 h84 (by omega) (by omega) jtp (by omega)) (fun oc G2 h => by rcases h with ⟨h, _⟩ | ⟨h, _⟩ <;> exact ⟨_, h⟩) (by omega) m_MO_here ml_MO_297 im_MO_here se_MO_here c_MO h80.2.2 (Nat.le_of_ble_eq_true rfl) d_MO_readGroup_147 rfl ?_
                      intro v G142 hq
                      rcases hq with ⟨hv, hGe, hq143⟩ | ⟨hv, hGe, hq144⟩
                      · cases hv
                        rw [hGe]
                        change ab_W _ _ _ G138 150 [some (vR 80), some (vz m_at), some (vz nw2139), some (vz k2140), none] [vz (A_tape (m_at + k2140))] _
                        refine ab_istore d_MO_readGroup_150 (Nat.le_of_ble_eq_true rfl) (Nat.le_of_ble_eq_true rfl) rfl ?_
                        change ab_W _ _ _ G138 152 [some (vR 80), some (vz m_at), some (vz nw2139), some (vz k2140), some (vz (A_tape (m_at + k2140)))] [] _
                        refine ab_iload d_MO_readGroup_152 rfl ?_
                        refine zz_bipush d_MO_readGroup_154 (by decide) ?_
                        refine zz_icmp_eq (tgt := 176) d_MO_readGroup_156 (by decide) (by omega) (by decide) (fun c145 => ?_) (fun c145 => ?_)
                        · refine ab_iload d_MO_readGroup_176 rfl ?_
                          refine zz_bipush d_MO_readGroup_178 (by decide) ?_
                          refine zz_icmp_ne (tgt := 199) d_MO_readGroup_180 (by decide) (by omega) (by decide) (fun c146 => absurd c146 (by omega)) (fun c146 => ?_)
                          refine ab_aload_n d_MO_readGroup_183 rfl ?_
                          refine ab_getf (fs := mof m_thrown m_taped m_length m_out m_wide m_gathered m_sets m_ranges m_nodes m_at m_flags m_fault m_place m_numbered m_depth m_value m_isNot m_least0 m_most0 m_slot m_work m_got m_rowMany m_charAt m_charWide m_trail m_isMatch m_matchGroups m_allFrom m_allBefore m_founds m_pieces m_writtenMany m_templateWide m_tooMuch) f_MO_282 d_MO_readGroup_184 h80.2.2 rfl ?_
                          refine zz_bipush d_MO_readGroup_187 (by decide) ?_
                          refine zz_icmp_ne (tgt := 199) d_MO_readGroup_189 (by decide) (by omega) (by decide) (fun c147 => ?_) (fun c147 => ?_)
                          · refine ab_aload_n d_MO_readGroup_199 rfl ?_
                            refine ab_getf (fs := mof m_thrown m_taped m_length m_out m_wide m_gathered m_sets m_ranges m_nodes m_at m_flags m_fault m_place m_numbered m_depth m_value m_isNot m_least0 m_most0 m_slot m_work m_got m_rowMany m_charAt m_charWide m_trail m_isMatch m_matchGroups m_allFrom m_allBefore m_founds m_pieces m_writtenMany m_templateWide m_tooMuch) f_MO_273 d_MO_readGroup_200 h80.2.2 rfl ?_
                            refine zz_if_le (tgt := 207) d_MO_readGroup_203 (by decide) (by omega) (fun c148 => ?_) (fun c148 => absurd c148 (by omega))
                            refine ab_aload_n d_MO_readGroup_207 rfl ?_
                            refine ab_dup d_MO_readGroup_208 rfl ?_
                            refine ab_getf (fs := mof m_thrown m_taped m_length m_out m_wide m_gathered m_sets m_ranges m_nodes m_at m_flags m_fault m_place m_numbered m_depth m_value m_isNot m_least0 m_most0 m_slot m_work m_got m_rowMany m_charAt m_charWide m_trail m_isMatch m_matchGroups m_allFrom m_allBefore m_founds m_pieces m_writtenMany m_templateWide m_tooMuch) f_MO_279 d_MO_readGroup_209 h80.2.2 rfl ?_
                            refine ab_iload_n d_MO_readGroup_212 rfl ?_
                            refine zz_iconst d_MO_readGroup_213 ?_
                            refine zz_iadd d_MO_readGroup_214 ?_
                            refine zz_iadd d_MO_readGroup_215 ?_
                            refine ab_putf (fs := mof m_thrown m_taped m_length m_out m_wide m_gathered m_sets m_ranges m_nodes m_at m_flags m_fault m_place m_numbered m_depth m_value m_isNot m_least0 m_most0 m_slot m_work m_got m_rowMany m_charAt m_charWide m_trail m_isMatch m_matchGroups m_allFrom m_allBefore m_founds m_pieces m_writtenMany m_templateWide m_tooMuch) f_MO_279 (Or.inl rfl) d_MO_readGroup_216 h80.2.2 (Nat.le_of_ble_eq_true rfl) (fun _ => ⟨rfl, rfl⟩) (h80.2.1 (by decide)) ?_
                            obtain ⟨G149, eG149⟩ : ∃ z : ab_G, z = List.set G138 80 (ab_ob 12 (mof m_thrown m_taped m_length m_out m_wide m_gathered m_sets m_ranges m_nodes (m_at + (k2140 + 1)) m_flags m_fault m_place m_numbered m_depth m_value m_isNot m_least0 m_most0 m_slot m_work m_got m_rowMany m_charAt m_charWide m_trail m_isMatch m_matchGroups m_allFrom m_allBefore m_founds m_pieces m_writtenMany m_templateWide m_tooMuch)) := ⟨_, rfl⟩
                            have h84 := h84.keep h80 eG149 (by decide)
                            have h87 := h87.keep h80 eG149 (by decide)
                            have h88 := h88.keep h80 eG149 (by decide)
                            have h93 := h93.keep h80 eG149 (by decide)
                            have h81 := h81.keep h80 eG149 (by decide)
                            have h82 := h82.keep h80 eG149 (by decide)
                            have h91 := h91.keep h80 eG149 (by decide)
                            have h92 := h92.keep h80 eG149 (by decide)
                            have h110 := h110.keep h80 eG149 (by decide)
                            have h111 := h111.keep h80 eG149 (by decide)
                            have hst := (fx.rf (o := o) (S := [280]) (G := G138)).wr h80 eG149 (List.mem_singleton.mpr rfl)
                            have ptrI_0 := trI.fr hst ptrI_0 (by decide) (by decide) (by decide) (by decide) (by decide) (by decide) (by decide) (by decide) (by decide) (by decide) (by decide) (by decide) (by decide) (by decide) (by decide) (by decide) (by decide) (by decide)
                            have hlen := (z_len eG149).trans hlen
                            have hsl := (z_sl h80 eG149 rfl).trans hsl
                            have hfr := hfr.wr h80 eG149 (by decide)
                            have h80 := h80.kept eG149
                            change ab_W _ _ _ (List.set G138 80 (ab_ob 12 (mof m_thrown m_taped m_length m_out m_wide m_gathered m_sets m_ranges m_nodes (m_at + (k2140 + 1)) m_flags m_fault m_place m_numbered m_depth m_value m_isNot m_least0 m_most0 m_slot m_work m_got m_rowMany m_charAt m_charWide m_trail m_isMatch m_matchGroups m_allFrom m_allBefore m_founds m_pieces m_writtenMany m_templateWide m_tooMuch))) 219 [some (vR 80), some (vz m_at), some (vz nw2139), some (vz k2140), some (vz (A_tape (m_at + k2140)))] [] _
                            rw [← eG149]
                            refine ab_iload d_MO_readGroup_219 rfl ?_
                            refine zz_bipush d_MO_readGroup_221 (by decide) ?_
                            refine zz_icmp_ne (tgt := 244) d_MO_readGroup_223 (by decide) (by omega) (by decide) (fun c150 => ?_) (fun c150 => absurd c150 (by omega))
                            refine ab_aload_n d_MO_readGroup_244 rfl ?_
                            refine ab_dup d_MO_readGroup_245 rfl ?_
                            refine ab_getf (fs := mof m_thrown m_taped m_length m_out m_wide m_gathered m_sets m_ranges m_nodes (m_at + (k2140 + 1)) m_flags m_fault m_place m_numbered m_depth m_value m_isNot m_least0 m_most0 m_slot m_work m_got m_rowMany m_charAt m_charWide m_trail m_isMatch m_matchGroups m_allFrom m_allBefore m_founds m_pieces m_writtenMany m_templateWide m_tooMuch) f_MO_282 d_MO_readGroup_246 h80.2.2 rfl ?_
                            refine zz_iconst d_MO_readGroup_249 ?_
                            refine zz_iadd d_MO_readGroup_250 ?_
                            refine ab_putf (fs := mof m_thrown m_taped m_length m_out m_wide m_gathered m_sets m_ranges m_nodes (m_at + (k2140 + 1)) m_flags m_fault m_place m_numbered m_depth m_value m_isNot m_least0 m_most0 m_slot m_work m_got m_rowMany m_charAt m_charWide m_trail m_isMatch m_matchGroups m_allFrom m_allBefore m_founds m_pieces m_writtenMany m_templateWide m_tooMuch) f_MO_282 (Or.inl rfl) d_MO_readGroup_251 h80.2.2 (Nat.le_of_ble_eq_true rfl) (fun _ => ⟨rfl, rfl⟩) (h80.2.1 (by decide)) ?_
                            obtain ⟨G151, eG151⟩ : ∃ z : ab_G, z = List.set G149 80 (ab_ob 12 (mof m_thrown m_taped m_length m_out m_wide m_gathered m_sets m_ranges m_nodes (m_at + (k2140 + 1)) m_flags m_fault m_place m_numbered (m_depth + 1) m_value m_isNot m_least0 m_most0 m_slot m_work m_got m_rowMany m_charAt m_charWide m_trail m_isMatch m_matchGroups m_allFrom m_allBefore m_founds m_pieces m_writtenMany m_templateWide m_tooMuch)) := ⟨_, rfl⟩
                            have h84 := h84.keep h80 eG151 (by decide)
                            have h87 := h87.keep h80 eG151 (by decide)
                            have h88 := h88.keep h80 eG151 (by decide)
                            have h93 := h93.keep h80 eG151 (by decide)
                            have h81 := h81.keep h80 eG151 (by decide)
                            have h82 := h82.keep h80 eG151 (by decide)
                            have h91 := h91.keep h80 eG151 (by decide)
                            have h92 := h92.keep h80 eG151 (by decide)
                            have h110 := h110.keep h80 eG151 (by decide)
                            have h111 := h111.keep h80 eG151 (by decide)
                            have hst := (fx.rf (o := o) (S := [280]) (G := G149)).wr h80 eG151 (List.mem_singleton.mpr rfl)
                            have ptrI_0 := trI.fr hst ptrI_0 (by decide) (by decide) (by decide) (by decide) (by decide) (by decide) (by decide) (by decide) (by decide) (by decide) (by decide) (by decide) (by decide) (by decide) (by decide) (by decide) (by decide) (by decide)
                            have hlen := (z_len eG151).trans hlen
                            have hsl := (z_sl h80 eG151 rfl).trans hsl
                            have hfr := hfr.wr h80 eG151 (by decide)
                            have h80 := h80.kept eG151
                            change ab_W _ _ _ (List.set G149 80 (ab_ob 12 (mof m_thrown m_taped m_length m_out m_wide m_gathered m_sets m_ranges m_nodes (m_at + (k2140 + 1)) m_flags m_fault m_place m_numbered (m_depth + 1) m_value m_isNot m_least0 m_most0 m_slot m_work m_got m_rowMany m_charAt m_charWide m_trail m_isMatch m_matchGroups m_allFrom m_allBefore m_founds m_pieces m_writtenMany m_templateWide m_tooMuch))) 254 [some (vR 80), some (vz m_at), some (vz nw2139), some (vz k2140), some (vz (A_tape (m_at + k2140)))] [] _
                            rw [← eG151]
                            refine ab_aload_n d_MO_readGroup_254 rfl ?_
                            refine ab_iload_n d_MO_readGroup_255 rfl ?_
                            refine ab_aload_n d_MO_readGroup_256 rfl ?_
                            refine ab_getf (fs := mof m_thrown m_taped m_length m_out m_wide m_gathered m_sets m_ranges m_nodes (m_at + (k2140 + 1)) m_flags m_fault m_place m_numbered (m_depth + 1) m_value m_isNot m_least0 m_most0 m_slot m_work m_got m_rowMany m_charAt m_charWide m_trail m_isMatch m_matchGroups m_allFrom m_allBefore m_founds m_pieces m_writtenMany m_templateWide m_tooMuch) f_MO_276 d_MO_readGroup_257 h80.2.2 rfl ?_
                            refine zz_iconst d_MO_readGroup_260 ?_
                            refine ab_callV (d' := d - 1) (as := [vz m_at, vz m_flags, vz 0]) (st := []) (r := _) (z_MO_openGroup (o := o) (m_thrown := m_thrown) (m_taped := m_taped) (m_length := m_length) (m_out := m_out) (m_wide := m_wide) (m_gathered := m_gathered) (m_sets := m_sets) (m_ranges := m_ranges) (m_nodes := m_nodes) (m_at := (m_at + (k2140 + 1))) (m_flags := m_flags) (m_fault := m_fault) (m_place := m_place) (m_numbered := m_numbered) (m_depth := (m_depth + 1)) (m_value := m_value) (m_isNot := m_isNot) (m_least0 := m_least0) (m_most0 := m_most0) (m_slot := m_slot) (m_work := m_work) (m_got := m_got) (m_rowMany := m_rowMany) (m_charAt := m_charAt) (m_charWide := m_charWide) (m_trail := m_trail) (m_isMatch := m_isMatch) (m_matchGroups := m_matchGroups) (m_allFrom := m_allFrom) (m_allBefore := m_allBefore) (m_founds := m_founds) (m_pieces := m_pieces) (m_writtenMany := m_writtenMany) (m_templateWide := m_templateWide) (m_tooMuch := m_tooMuch) (x := m_at) (y := m_flags) (w := 0) (dn := (-1)) (dh := 0) (re_ := 0) h80 ptrI_0 (by omega) (by omega) (by omega) (by omega)) (fun oc G2 h => by rcases h with ⟨h, _⟩ <;> exact ⟨_, h⟩) (by omega) m_MO_openGroup ml_MO_392 im_MO_openGroup se_MO_openGroup c_MO h80.2.2 (Nat.le_of_ble_eq_true rfl) d_MO_readGroup_261 rfl ?_
                            intro v G152 hq
                            rcases hq with ⟨hv, hfk, hlk, hsk, pNtrI_0⟩
                            cases hv
                            have h80 := hfk.get h80 (by decide)
                            have h84 := hfk.get h84 (by decide)
                            have h87 := hfk.get h87 (by decide)
                            have h88 := hfk.get h88 (by decide)
                            have h93 := hfk.get h93 (by decide)
                            have h81 := hfk.get h81 (by decide)
                            have h82 := hfk.get h82 (by decide)
                            have h91 := hfk.get h91 (by decide)
                            have h92 := hfk.get h92 (by decide)
                            have h110 := hfk.get h110 (by decide)
                            have h111 := hfk.get h111 (by decide)
                            have ptrI_0 := pNtrI_0
                            have hfr := hfr.tr hfk (by decide)
                            have hlen := hlk.trans hlen
                            have hsl := hsk.trans hsl
                            change ab_W _ _ _ G152 264 [some (vR 80), some (vz m_at), some (vz nw2139), some (vz k2140), some (vz (A_tape (m_at + k2140)))] [] _
                            refine ab_aload_n d_MO_readGroup_264 rfl ?_
                            refine ab_iload_n d_MO_readGroup_265 rfl ?_
                            refine ab_putf (fs := mof m_thrown m_taped m_length m_out m_wide m_gathered m_sets m_ranges m_nodes (m_at + (k2140 + 1)) m_flags m_fault m_place m_numbered (m_depth + 1) m_value m_isNot m_least0 m_most0 m_slot m_work m_got m_rowMany m_charAt m_charWide m_trail m_isMatch m_matchGroups m_allFrom m_allBefore m_founds m_pieces m_writtenMany m_templateWide m_tooMuch) f_MO_276 (Or.inl rfl) d_MO_readGroup_266 h80.2.2 (Nat.le_of_ble_eq_true rfl) (fun _ => ⟨rfl, rfl⟩) (h80.2.1 (by decide)) ?_
                            obtain ⟨G153, eG153⟩ : ∃ z : ab_G, z = List.set G152 80 (ab_ob 12 (mof m_thrown m_taped m_length m_out m_wide m_gathered m_sets m_ranges m_nodes (m_at + (k2140 + 1)) nw2139 m_fault m_place m_numbered (m_depth + 1) m_value m_isNot m_least0 m_most0 m_slot m_work m_got m_rowMany m_charAt m_charWide m_trail m_isMatch m_matchGroups m_allFrom m_allBefore m_founds m_pieces m_writtenMany m_templateWide m_tooMuch)) := ⟨_, rfl⟩
                            have h84 := h84.keep h80 eG153 (by decide)
                            have h87 := h87.keep h80 eG153 (by decide)
                            have h88 := h88.keep h80 eG153 (by decide)
                            have h93 := h93.keep h80 eG153 (by decide)
                            have h81 := h81.keep h80 eG153 (by decide)
                            have h82 := h82.keep h80 eG153 (by decide)
                            have h91 := h91.keep h80 eG153 (by decide)
                            have h92 := h92.keep h80 eG153 (by decide)
                            have h110 := h110.keep h80 eG153 (by decide)
                            have h111 := h111.keep h80 eG153 (by decide)
                            have hst := (fx.rf (o := o) (S := [280]) (G := G152)).wr h80 eG153 (List.mem_singleton.mpr rfl)
                            have ptrI_0 := trI.fr hst ptrI_0 (by decide) (by decide) (by decide) (by decide) (by decide) (by decide) (by decide) (by decide) (by decide) (by decide) (by decide) (by decide) (by decide) (by decide) (by decide) (by decide) (by decide) (by decide)
                            have hlen := (z_len eG153).trans hlen
                            have hsl := (z_sl h80 eG153 rfl).trans hsl
                            have hfr := hfr.wr h80 eG153 (by decide)
                            have h80 := h80.kept eG153
                            change ab_W _ _ _ (List.set G152 80 (ab_ob 12 (mof m_thrown m_taped m_length m_out m_wide m_gathered m_sets m_ranges m_nodes (m_at + (k2140 + 1)) nw2139 m_fault m_place m_numbered (m_depth + 1) m_value m_isNot m_least0 m_most0 m_slot m_work m_got m_rowMany m_charAt m_charWide m_trail m_isMatch m_matchGroups m_allFrom m_allBefore m_founds m_pieces m_writtenMany m_templateWide m_tooMuch))) 269 [some (vR 80), some (vz m_at), some (vz nw2139), some (vz k2140), some (vz (A_tape (m_at + k2140)))] [] _
                            rw [← eG153]
                            refine ab_vret rfl d_MO_readGroup_269 ?_
                            rw [hQ]; exact (Or.inl ⟨_, _, _, _, _, _, _, _, _, _, _, _, _, _, _, _, _, _, _, _, _, _, rfl, hfr, hlen, hsl, h80, h87, h88, h93, h91, h92, h110, h111, ptrI_0, (by omega), (by first | exact jmk | exact rgs_w jmk (by omega)), (by first | exact jrl | exact rgs_w jrl (by omega)), (by first | exact jrh | exact rgs_w jrh (by omega)), (by first | exact jns | exact rgs_w jns (by omega)), (by first | exact jnm | exact rgs_w jnm (by omega))⟩)
                          · refine ab_aload_n d_MO_readGroup_192 rfl ?_
                            refine zz_bipush d_MO_readGroup_193 (by decide) ?_
                            refine ab_iload_n d_MO_readGroup_195 rfl ?_
                            refine ab_callV (d' := d - 1) (as := [vz 12, vz m_at]) (st := []) (r := _) (z_MO_wrong (o := o) (m_thrown := m_thrown) (m_taped := m_taped) (m_length := m_length) (m_out := m_out) (m_wide := m_wide) (m_gathered := m_gathered) (m_sets := m_sets) (m_ranges := m_ranges) (m_nodes := m_nodes) (m_at := m_at) (m_flags := m_flags) (m_fault := m_fault) (m_place := m_place) (m_numbered := m_numbered) (m_depth := m_depth) (m_value := m_value) (m_isNot := m_isNot) (m_least0 := m_least0) (m_most0 := m_most0) (m_slot := m_slot) (m_work := m_work) (m_got := m_got) (m_rowMany := m_rowMany) (m_charAt := m_charAt) (m_charWide := m_charWide) (m_trail := m_trail) (m_isMatch := m_isMatch) (m_matchGroups := m_matchGroups) (m_allFrom := m_allFrom) (m_allBefore := m_allBefore) (m_founds := m_founds) (m_pieces := m_pieces) (m_writtenMany := m_writtenMany) (m_templateWide := m_templateWide) (m_tooMuch := m_tooMuch) (x := 12) (y := m_at) h80 (by omega) (by omega)) (fun oc G2 h => by rcases h with ⟨_, _, h, _⟩ <;> exact ⟨_, h⟩) (by omega) m_MO_wrong ml_MO_304 im_MO_wrong se_MO_wrong c_MO h80.2.2 (Nat.le_of_ble_eq_true rfl) d_MO_readGroup_196 rfl ?_
                            intro v G154 hq
                            rcases hq with ⟨f2155, p2156, hv, hfk, hlk, hsk, hN80, hq157⟩
                            cases hv
                            have h84 := hfk.get h84 (by decide)
                            have h87 := hfk.get h87 (by decide)
                            have h88 := hfk.get h88 (by decide)
                            have h93 := hfk.get h93 (by decide)
                            have h81 := hfk.get h81 (by decide)
                            have h82 := hfk.get h82 (by decide)
                            have h91 := hfk.get h91 (by decide)
                            have h92 := hfk.get h92 (by decide)
                            have h110 := hfk.get h110 (by decide)
                            have h111 := hfk.get h111 (by decide)
                            have ptrI_0 := trI.fr hfk ptrI_0 (by decide) (by decide) (by decide) (by decide) (by decide) (by decide) (by decide) (by decide) (by decide) (by decide) (by decide) (by decide) (by decide) (by decide) (by decide) (by decide) (by decide) (by decide)
                            have hfr := hfr.tr hfk (by decide)
                            have hlen := hlk.trans hlen
                            have hsl := hsk.trans hsl
                            have h80 := hN80
                            change ab_W _ _ _ G154 199 [some (vR 80), some (vz m_at), some (vz nw2139), some (vz k2140), some (vz (A_tape (m_at + k2140)))] [] _
                            refine ab_aload_n d_MO_readGroup_199 rfl ?_
                            refine ab_getf (fs := mof m_thrown m_taped m_length m_out m_wide m_gathered m_sets m_ranges m_nodes m_at m_flags f2155 p2156 m_numbered m_depth m_value m_isNot m_least0 m_most0 m_slot m_work m_got m_rowMany m_charAt m_charWide m_trail m_isMatch m_matchGroups m_allFrom m_allBefore m_founds m_pieces m_writtenMany m_templateWide m_tooMuch) f_MO_273 d_MO_readGroup_200 h80.2.2 rfl ?_
                            refine zz_if_le (tgt := 207) d_MO_readGroup_203 (by decide) (by omega) (fun c158 => absurd c158 (by omega)) (fun c158 => ?_)
                            refine ab_vret rfl d_MO_readGroup_206 ?_
                            rw [hQ]; exact (Or.inr ⟨_, _, _, _, _, _, _, _, _, _, _, _, _, _, _, _, _, _, _, _, _, _, rfl, hfr, hlen, hsl, h80, h87, h88, h93, h91, h92, h110, h111, ptrI_0, (by omega), (by first | exact jmk | exact rgs_w jmk (by omega)), (by first | exact jrl | exact rgs_w jrl (by omega)), (by first | exact jrh | exact rgs_w jrh (by omega)), (by first | exact jns | exact rgs_w jns (by omega)), (by first | exact jnm | exact rgs_w jnm (by omega))⟩)
                        · replace c145 : nzq (A_tape (m_at + k2140)) 58 := c145
                          refine ab_iload d_MO_readGroup_159 rfl ?_
                          refine zz_bipush d_MO_readGroup_161 (by decide) ?_
                          refine zz_icmp_eq (tgt := 176) d_MO_readGroup_163 (by decide) (by omega) (by decide) (fun c159 => ?_) (fun c159 => ?_)
                          · refine ab_iload d_MO_readGroup_176 rfl ?_
                            refine zz_bipush d_MO_readGroup_178 (by decide) ?_
                            refine zz_icmp_ne (tgt := 199) d_MO_readGroup_180 (by decide) (by omega) (by decide) (fun c160 => ?_) (fun c160 => absurd c160 (by omega))
                            refine ab_aload_n d_MO_readGroup_199 rfl ?_
                            refine ab_getf (fs := mof m_thrown m_taped m_length m_out m_wide m_gathered m_sets m_ranges m_nodes m_at m_flags m_fault m_place m_numbered m_depth m_value m_isNot m_least0 m_most0 m_slot m_work m_got m_rowMany m_charAt m_charWide m_trail m_isMatch m_matchGroups m_allFrom m_allBefore m_founds m_pieces m_writtenMany m_templateWide m_tooMuch) f_MO_273 d_MO_readGroup_200 h80.2.2 rfl ?_
                            refine zz_if_le (tgt := 207) d_MO_readGroup_203 (by decide) (by omega) (fun c161 => ?_) (fun c161 => absurd c161 (by omega))
                            refine ab_aload_n d_MO_readGroup_207 rfl ?_
                            refine ab_dup d_MO_readGroup_208 rfl ?_
                            refine ab_getf (fs := mof m_thrown m_taped m_length m_out m_wide m_gathered m_sets m_ranges m_nodes m_at m_flags m_fault m_place m_numbered m_depth m_value m_isNot m_least0 m_most0 m_slot m_work m_got m_rowMany m_charAt m_charWide m_trail m_isMatch m_matchGroups m_allFrom m_allBefore m_founds m_pieces m_writtenMany m_templateWide m_tooMuch) f_MO_279 d_MO_readGroup_209 h80.2.2 rfl ?_
                            refine ab_iload_n d_MO_readGroup_212 rfl ?_
                            refine zz_iconst d_MO_readGroup_213 ?_
                            refine zz_iadd d_MO_readGroup_214 ?_
                            refine zz_iadd d_MO_readGroup_215 ?_
                            refine ab_putf (fs := mof m_thrown m_taped m_length m_out m_wide m_gathered m_sets m_ranges m_nodes m_at m_flags m_fault m_place m_numbered m_depth m_value m_isNot m_least0 m_most0 m_slot m_work m_got m_rowMany m_charAt m_charWide m_trail m_isMatch m_matchGroups m_allFrom m_allBefore m_founds m_pieces m_writtenMany m_templateWide m_tooMuch) f_MO_279 (Or.inl rfl) d_MO_readGroup_216 h80.2.2 (Nat.le_of_ble_eq_true rfl) (fun _ => ⟨rfl, rfl⟩) (h80.2.1 (by decide)) ?_
                            obtain ⟨G162, eG162⟩ : ∃ z : ab_G, z = List.set G138 80 (ab_ob 12 (mof m_thrown m_taped m_length m_out m_wide m_gathered m_sets m_ranges m_nodes (m_at + (k2140 + 1)) m_flags m_fault m_place m_numbered m_depth m_value m_isNot m_least0 m_most0 m_slot m_work m_got m_rowMany m_charAt m_charWide m_trail m_isMatch m_matchGroups m_allFrom m_allBefore m_founds m_pieces m_writtenMany m_templateWide m_tooMuch)) := ⟨_, rfl⟩
                            have h84 := h84.keep h80 eG162 (by decide)
                            have h87 := h87.keep h80 eG162 (by decide)
                            have h88 := h88.keep h80 eG162 (by decide)
                            have h93 := h93.keep h80 eG162 (by decide)
                            have h81 := h81.keep h80 eG162 (by decide)
                            have h82 := h82.keep h80 eG162 (by decide)
                            have h91 := h91.keep h80 eG162 (by decide)
                            have h92 := h92.keep h80 eG162 (by decide)
                            have h110 := h110.keep h80 eG162 (by decide)
                            have h111 := h111.keep h80 eG162 (by decide)
                            have hst := (fx.rf (o := o) (S := [280]) (G := G138)).wr h80 eG162 (List.mem_singleton.mpr rfl)
                            have ptrI_0 := trI.fr hst ptrI_0 (by decide) (by decide) (by decide) (by decide) (by decide) (by decide) (by decide) (by decide) (by decide) (by decide) (by decide) (by decide) (by decide) (by decide) (by decide) (by decide) (by decide) (by decide)
                            have hlen := (z_len eG162).trans hlen
                            have hsl := (z_sl h80 eG162 rfl).trans hsl
                            have hfr := hfr.wr h80 eG162 (by decide)
                            have h80 := h80.kept eG162
                            change ab_W _ _ _ (List.set G138 80 (ab_ob 12 (mof m_thrown m_taped m_length m_out m_wide m_gathered m_sets m_ranges m_nodes (m_at + (k2140 + 1)) m_flags m_fault m_place m_numbered m_depth m_value m_isNot m_least0 m_most0 m_slot m_work m_got m_rowMany m_charAt m_charWide m_trail m_isMatch m_matchGroups m_allFrom m_allBefore m_founds m_pieces m_writtenMany m_templateWide m_tooMuch))) 219 [some (vR 80), some (vz m_at), some (vz nw2139), some (vz k2140), some (vz (A_tape (m_at + k2140)))] [] _
                            rw [← eG162]
                            refine ab_iload d_MO_readGroup_219 rfl ?_
                            refine zz_bipush d_MO_readGroup_221 (by decide) ?_
                            refine zz_icmp_ne (tgt := 244) d_MO_readGroup_223 (by decide) (by omega) (by decide) (fun c163 => absurd c163 (by omega)) (fun c163 => ?_)
                            refine ab_aload_n d_MO_readGroup_226 rfl ?_
                            refine ab_iload_n d_MO_readGroup_227 rfl ?_
                            refine ab_putf (fs := mof m_thrown m_taped m_length m_out m_wide m_gathered m_sets m_ranges m_nodes (m_at + (k2140 + 1)) m_flags m_fault m_place m_numbered m_depth m_value m_isNot m_least0 m_most0 m_slot m_work m_got m_rowMany m_charAt m_charWide m_trail m_isMatch m_matchGroups m_allFrom m_allBefore m_founds m_pieces m_writtenMany m_templateWide m_tooMuch) f_MO_276 (Or.inl rfl) d_MO_readGroup_228 h80.2.2 (Nat.le_of_ble_eq_true rfl) (fun _ => ⟨rfl, rfl⟩) (h80.2.1 (by decide)) ?_
                            obtain ⟨G164, eG164⟩ : ∃ z : ab_G, z = List.set G162 80 (ab_ob 12 (mof m_thrown m_taped m_length m_out m_wide m_gathered m_sets m_ranges m_nodes (m_at + (k2140 + 1)) nw2139 m_fault m_place m_numbered m_depth m_value m_isNot m_least0 m_most0 m_slot m_work m_got m_rowMany m_charAt m_charWide m_trail m_isMatch m_matchGroups m_allFrom m_allBefore m_founds m_pieces m_writtenMany m_templateWide m_tooMuch)) := ⟨_, rfl⟩
                            have h84 := h84.keep h80 eG164 (by decide)
                            have h87 := h87.keep h80 eG164 (by decide)
                            have h88 := h88.keep h80 eG164 (by decide)
                            have h93 := h93.keep h80 eG164 (by decide)
                            have h81 := h81.keep h80 eG164 (by decide)
                            have h82 := h82.keep h80 eG164 (by decide)
                            have h91 := h91.keep h80 eG164 (by decide)
                            have h92 := h92.keep h80 eG164 (by decide)
                            have h110 := h110.keep h80 eG164 (by decide)
                            have h111 := h111.keep h80 eG164 (by decide)
                            have hst := (fx.rf (o := o) (S := [280]) (G := G162)).wr h80 eG164 (List.mem_singleton.mpr rfl)
                            have ptrI_0 := trI.fr hst ptrI_0 (by decide) (by decide) (by decide) (by decide) (by decide) (by decide) (by decide) (by decide) (by decide) (by decide) (by decide) (by decide) (by decide) (by decide) (by decide) (by decide) (by decide) (by decide)
                            have hlen := (z_len eG164).trans hlen
                            have hsl := (z_sl h80 eG164 rfl).trans hsl
                            have hfr := hfr.wr h80 eG164 (by decide)
                            have h80 := h80.kept eG164
                            change ab_W _ _ _ (List.set G162 80 (ab_ob 12 (mof m_thrown m_taped m_length m_out m_wide m_gathered m_sets m_ranges m_nodes (m_at + (k2140 + 1)) nw2139 m_fault m_place m_numbered m_depth m_value m_isNot m_least0 m_most0 m_slot m_work m_got m_rowMany m_charAt m_charWide m_trail m_isMatch m_matchGroups m_allFrom m_allBefore m_founds m_pieces m_writtenMany m_templateWide m_tooMuch))) 231 [some (vR 80), some (vz m_at), some (vz nw2139), some (vz k2140), some (vz (A_tape (m_at + k2140)))] [] _
                            rw [← eG164]
                            obtain ⟨K, O, Fi, Be, Le, Mo, Z, LZ, SM, SA, QF, QL, AF, AL, SD, OA, OF, ON, h94, h95, h96, h97, h98, h99, h100, h101, h90, h89, h105, h106, h107, h108, h109, h102, h103, h104, jk, jo, jfi, jbe, jle, jmo, jz, jlz, jsm, jsa, jqf, jql, jaf, jal, jsd, joa, jof, jon, jt, cnd, cre, crs, crz, ck5, ck6, jss⟩ := ptrI_0
                            refine ab_aload_n d_MO_readGroup_231 rfl ?_
                            refine ab_aload_n d_MO_readGroup_232 rfl ?_
                            refine zz_iconst d_MO_readGroup_233 ?_
                            refine zz_iconst d_MO_readGroup_234 ?_
                            refine zz_lconst d_MO_readGroup_235 ?_
                            change ab_W _ _ _ G164 236 [some (vR 80), some (vz m_at), some (vz nw2139), some (vz k2140), some (vz (A_tape (m_at + k2140)))] [vj 0, vz 0, vz 0, vR 80, vR 80] _
                            refine ab_callV (d' := d - 1) (as := [vz 0, vz 0, vj 0]) (st := [vR 80]) (r := _) (z_MO_node (o := o) (m_thrown := m_thrown) (m_taped := m_taped) (m_length := m_length) (m_out := m_out) (m_wide := m_wide) (m_gathered := m_gathered) (m_sets := m_sets) (m_ranges := m_ranges) (m_nodes := m_nodes) (m_at := (m_at + (k2140 + 1))) (m_flags := nw2139) (m_fault := m_fault) (m_place := m_place) (m_numbered := m_numbered) (m_depth := m_depth) (m_value := m_value) (m_isNot := m_isNot) (m_least0 := m_least0) (m_most0 := m_most0) (m_slot := m_slot) (m_work := m_work) (m_got := m_got) (m_rowMany := m_rowMany) (m_charAt := m_charAt) (m_charWide := m_charWide) (m_trail := m_trail) (m_isMatch := m_isMatch) (m_matchGroups := m_matchGroups) (m_allFrom := m_allFrom) (m_allBefore := m_allBefore) (m_founds := m_founds) (m_pieces := m_pieces) (m_writtenMany := m_writtenMany) (m_templateWide := m_templateWide) (m_tooMuch := m_tooMuch) (K := K) (O := O) (Fi := Fi) (Be := Be) (Z := Z) (k := 0) (w := 0) (zs := 0) h80 h94 h95 h96 h97 h100 (by omega) (by omega)) (fun oc G2 h => by rcases h with ⟨h, _⟩ <;> exact ⟨_, h⟩) (by omega) m_MO_node ml_MO_269 im_MO_node se_MO_node c_MO h80.2.2 (Nat.le_of_ble_eq_true rfl) d_MO_readGroup_236 rfl ?_
                            intro v G165 hq
                            rcases hq with ⟨hv, hfk, hlk, hsk, hN80, hN94, hN95, hN96, hN97, hN100⟩
                            cases hv
                            have h84 := hfk.get h84 (by decide)
                            have h87 := hfk.get h87 (by decide)
                            have h88 := hfk.get h88 (by decide)
                            have h93 := hfk.get h93 (by decide)
                            have h81 := hfk.get h81 (by decide)
                            have h82 := hfk.get h82 (by decide)
                            have h91 := hfk.get h91 (by decide)
                            have h92 := hfk.get h92 (by decide)
                            have h110 := hfk.get h110 (by decide)
                            have h111 := hfk.get h111 (by decide)
                            have h98 := hfk.get h98 (by decide)
                            have h99 := hfk.get h99 (by decide)
                            have h101 := hfk.get h101 (by decide)
                            have h90 := hfk.get h90 (by decide)
                            have h89 := hfk.get h89 (by decide)
                            have h105 := hfk.get h105 (by decide)
                            have h106 := hfk.get h106 (by decide)
                            have h107 := hfk.get h107 (by decide)
                            have h108 := hfk.get h108 (by decide)
                            have h109 := hfk.get h109 (by decide)
                            have h102 := hfk.get h102 (by decide)
                            have h103 := hfk.get h103 (by decide)
                            have h104 := hfk.get h104 (by decide)
                            have hfr := hfr.tr hfk (by decide)
                            have hlen := hlk.trans hlen
                            have hsl := hsk.trans hsl
                            have h80 := hN80
                            have h94 := hN94
                            have h95 := hN95
                            have h96 := hN96
                            have h97 := hN97
                            have h100 := hN100
                            change ab_W _ _ _ G165 239 [some (vR 80), some (vz m_at), some (vz nw2139), some (vz k2140), some (vz (A_tape (m_at + k2140)))] [vz m_nodes, vR 80] _
                            have ptrI_0 : trI o G165 0 (m_nodes + 1) m_sets (m_depth + 1) m_nodes 0 6 := ⟨(zu K m_nodes 0), (zu O m_nodes 0), (zu Fi m_nodes (-1)), (zu Be m_nodes (-1)), Le, Mo, (zu Z m_nodes 0), LZ, SM, SA, QF, QL, AF, AL, SD, OA, OF, ON, h94, h95, h96, h97, h98, h99, h100, h101, h90, h89, h105, h106, h107, h108, h109, h102, h103, h104, (rgs_zu jk (by omega)), (rgs_zu jo (by omega)), (rgs_zu jfi (by omega)), (rgs_zu jbe (by omega)), jle, jmo, (rgs_zu jz (by omega)), jlz, jsm, jsa, jqf, jql, jaf, jal, jsd, joa, jof, jon, (rtr_leaf jt (by omega) (Or.inl ⟨rfl, rfl⟩)), (by omega), (fun h => absurd h (by decide)), (fun h => absurd h (by decide)), (fun h => absurd h (by decide)), (fun h => absurd h (by decide)), (fun _ => by rw [zu_self]; decide), jss⟩
                            refine zz_iconst d_MO_readGroup_239 ?_
                            refine ab_callV (d' := d - 1) (as := [vz m_nodes, vz 2]) (st := []) (r := _) (z_MO_part (o := o) (m_thrown := m_thrown) (m_taped := m_taped) (m_length := m_length) (m_out := m_out) (m_wide := m_wide) (m_gathered := m_gathered) (m_sets := m_sets) (m_ranges := m_ranges) (m_nodes := (m_nodes + 1)) (m_at := (m_at + (k2140 + 1))) (m_flags := nw2139) (m_fault := m_fault) (m_place := m_place) (m_numbered := m_numbered) (m_depth := m_depth) (m_value := m_value) (m_isNot := m_isNot) (m_least0 := m_least0) (m_most0 := m_most0) (m_slot := m_slot) (m_work := m_work) (m_got := m_got) (m_rowMany := m_rowMany) (m_charAt := m_charAt) (m_charWide := m_charWide) (m_trail := m_trail) (m_isMatch := m_isMatch) (m_matchGroups := m_matchGroups) (m_allFrom := m_allFrom) (m_allBefore := m_allBefore) (m_founds := m_founds) (m_pieces := m_pieces) (m_writtenMany := m_writtenMany) (m_templateWide := m_templateWide) (m_tooMuch := m_tooMuch) (x := m_nodes) (s := 2) (dh := 0) h80 ptrI_0 (by omega) (by omega) (by omega) (by omega)) (fun oc G2 h => by rcases h with ⟨h, _⟩ <;> exact ⟨_, h⟩) (by omega) m_MO_part ml_MO_375 im_MO_part se_MO_part c_MO h80.2.2 (Nat.le_of_ble_eq_true rfl) d_MO_readGroup_240 rfl ?_
                            intro v G166 hq
                            rcases hq with ⟨hv, hfk, hlk, hsk, pNtrI_0⟩
                            cases hv
                            have h80 := hfk.get h80 (by decide)
                            have h84 := hfk.get h84 (by decide)
                            have h87 := hfk.get h87 (by decide)
                            have h88 := hfk.get h88 (by decide)
                            have h93 := hfk.get h93 (by decide)
                            have h81 := hfk.get h81 (by decide)
                            have h82 := hfk.get h82 (by decide)
                            have h91 := hfk.get h91 (by decide)
                            have h92 := hfk.get h92 (by decide)
                            have h110 := hfk.get h110 (by decide)
                            have h111 := hfk.get h111 (by decide)
                            have ptrI_0 := pNtrI_0
                            have hfr := hfr.tr hfk (by decide)
                            have hlen := hlk.trans hlen
                            have hsl := hsk.trans hsl
                            change ab_W _ _ _ G166 243 [some (vR 80), some (vz m_at), some (vz nw2139), some (vz k2140), some (vz (A_tape (m_at + k2140)))] [] _
                            refine ab_vret rfl d_MO_readGroup_243 ?_
                            rw [hQ]; exact (Or.inl ⟨_, _, _, _, _, _, _, _, _, _, _, _, _, _, _, _, _, _, _, _, _, _, rfl, hfr, hlen, hsl, h80, h87, h88, h93, h91, h92, h110, h111, ptrI_0, (by omega), (by first | exact jmk | exact rgs_w jmk (by omega)), (by first | exact jrl | exact rgs_w jrl (by omega)), (by first | exact jrh | exact rgs_w jrh (by omega)), (by first | exact jns | exact rgs_w jns (by omega)), (by first | exact jnm | exact rgs_w jnm (by omega))⟩)
                          · replace c159 : nzq (A_tape (m_at + k2140)) 41 := c159
                            refine ab_aload_n d_MO_readGroup_166 rfl ?_
                            refine zz_bipush d_MO_readGroup_167 (by decide) ?_
                            refine ab_iload_n d_MO_readGroup_169 rfl ?_
                            refine ab_callV (d' := d - 1) (as := [vz 10, vz m_at]) (st := []) (r := _) (z_MO_wrong (o := o) (m_thrown := m_thrown) (m_taped := m_taped) (m_length := m_length) (m_out := m_out) (m_wide := m_wide) (m_gathered := m_gathered) (m_sets := m_sets) (m_ranges := m_ranges) (m_nodes := m_nodes) (m_at := m_at) (m_flags := m_flags) (m_fault := m_fault) (m_place := m_place) (m_numbered := m_numbered) (m_depth := m_depth) (m_value := m_value) (m_isNot := m_isNot) (m_least0 := m_least0) (m_most0 := m_most0) (m_slot := m_slot) (m_work := m_work) (m_got := m_got) (m_rowMany := m_rowMany) (m_charAt := m_charAt) (m_charWide := m_charWide) (m_trail := m_trail) (m_isMatch := m_isMatch) (m_matchGroups := m_matchGroups) (m_allFrom := m_allFrom) (m_allBefore := m_allBefore) (m_founds := m_founds) (m_pieces := m_pieces) (m_writtenMany := m_writtenMany) (m_templateWide := m_templateWide) (m_tooMuch := m_tooMuch) (x := 10) (y := m_at) h80 (by omega) (by omega)) (fun oc G2 h => by rcases h with ⟨_, _, h, _⟩ <;> exact ⟨_, h⟩) (by omega) m_MO_wrong ml_MO_304 im_MO_wrong se_MO_wrong c_MO h80.2.2 (Nat.le_of_ble_eq_true rfl) d_MO_readGroup_170 rfl ?_
                            intro v G167 hq
                            rcases hq with ⟨f2168, p2169, hv, hfk, hlk, hsk, hN80, hq170⟩
                            cases hv
                            have h84 := hfk.get h84 (by decide)
                            have h87 := hfk.get h87 (by decide)
                            have h88 := hfk.get h88 (by decide)
                            have h93 := hfk.get h93 (by decide)
                            have h81 := hfk.get h81 (by decide)
                            have h82 := hfk.get h82 (by decide)
                            have h91 := hfk.get h91 (by decide)
                            have h92 := hfk.get h92 (by decide)
                            have h110 := hfk.get h110 (by decide)
                            have h111 := hfk.get h111 (by decide)
                            have ptrI_0 := trI.fr hfk ptrI_0 (by decide) (by decide) (by decide) (by decide) (by decide) (by decide) (by decide) (by decide) (by decide) (by decide) (by decide) (by decide) (by decide) (by decide) (by decide) (by decide) (by decide) (by decide)
                            have hfr := hfr.tr hfk (by decide)
                            have hlen := hlk.trans hlen
                            have hsl := hsk.trans hsl
                            have h80 := hN80
                            change ab_W _ _ _ G167 173 [some (vR 80), some (vz m_at), some (vz nw2139), some (vz k2140), some (vz (A_tape (m_at + k2140)))] [] _
                            refine ab_goto (tgt := 199) d_MO_readGroup_173 (by decide) ?_
                            refine ab_aload_n d_MO_readGroup_199 rfl ?_
                            refine ab_getf (fs := mof m_thrown m_taped m_length m_out m_wide m_gathered m_sets m_ranges m_nodes m_at m_flags f2168 p2169 m_numbered m_depth m_value m_isNot m_least0 m_most0 m_slot m_work m_got m_rowMany m_charAt m_charWide m_trail m_isMatch m_matchGroups m_allFrom m_allBefore m_founds m_pieces m_writtenMany m_templateWide m_tooMuch) f_MO_273 d_MO_readGroup_200 h80.2.2 rfl ?_
                            refine zz_if_le (tgt := 207) d_MO_readGroup_203 (by decide) (by omega) (fun c171 => absurd c171 (by omega)) (fun c171 => ?_)
                            refine ab_vret rfl d_MO_readGroup_206 ?_
                            rw [hQ]; exact (Or.inr ⟨_, _, _, _, _, _, _, _, _, _, _, _, _, _, _, _, _, _, _, _, _, _, rfl, hfr, hlen, hsl, h80, h87, h88, h93, h91, h92, h110, h111, ptrI_0, (by omega), (by first | exact jmk | exact rgs_w jmk (by omega)), (by first | exact jrl | exact rgs_w jrl (by omega)), (by first | exact jrh | exact rgs_w jrh (by omega)), (by first | exact jns | exact rgs_w jns (by omega)), (by first | exact jnm | exact rgs_w jnm (by omega))⟩)
                      · cases hv
                        rw [hGe]
                        change ab_W _ _ _ G138 150 [some (vR 80), some (vz m_at), some (vz nw2139), some (vz k2140), none] [vz (-1)] _
                        refine ab_istore d_MO_readGroup_150 (Nat.le_of_ble_eq_true rfl) (Nat.le_of_ble_eq_true rfl) rfl ?_
                        change ab_W _ _ _ G138 152 [some (vR 80), some (vz m_at), some (vz nw2139), some (vz k2140), some (vz (-1))] [] _
                        refine ab_iload d_MO_readGroup_152 rfl ?_
                        refine zz_bipush d_MO_readGroup_154 (by decide) ?_
                        refine zz_icmp_eq (tgt := 176) d_MO_readGroup_156 (by decide) (by decide) (by decide) (fun c172 => absurd c172 (by decide)) (fun c172 => ?_)
                        refine ab_iload d_MO_readGroup_159 rfl ?_
                        refine zz_bipush d_MO_readGroup_161 (by decide) ?_
                        refine zz_icmp_eq (tgt := 176) d_MO_readGroup_163 (by decide) (by decide) (by decide) (fun c173 => absurd c173 (by decide)) (fun c173 => ?_)
                        refine ab_aload_n d_MO_readGroup_166 rfl ?_
                        refine zz_bipush d_MO_readGroup_167 (by decide) ?_
                        refine ab_iload_n d_MO_readGroup_169 rfl ?_
                        refine ab_callV (d' := d - 1) (as := [vz 10, vz m_at]) (st := []) (r := _) (z_MO_wrong (o := o) (m_thrown := m_thrown) (m_taped := m_taped) (m_length := m_length) (m_out := m_out) (m_wide := m_wide) (m_gathered := m_gathered) (m_sets := m_sets) (m_ranges := m_ranges) (m_nodes := m_nodes) (m_at := m_at) (m_flags := m_flags) (m_fault := m_fault) (m_place := m_place) (m_numbered := m_numbered) (m_depth := m_depth) (m_value := m_value) (m_isNot := m_isNot) (m_least0 := m_least0) (m_most0 := m_most0) (m_slot := m_slot) (m_work := m_work) (m_got := m_got) (m_rowMany := m_rowMany) (m_charAt := m_charAt) (m_charWide := m_charWide) (m_trail := m_trail) (m_isMatch := m_isMatch) (m_matchGroups := m_matchGroups) (m_allFrom := m_allFrom) (m_allBefore := m_allBefore) (m_founds := m_founds) (m_pieces := m_pieces) (m_writtenMany := m_writtenMany) (m_templateWide := m_templateWide) (m_tooMuch := m_tooMuch) (x := 10) (y := m_at) h80 (by omega) (by omega)) (fun oc G2 h => by rcases h with ⟨_, _, h, _⟩ <;> exact ⟨_, h⟩) (by omega) m_MO_wrong ml_MO_304 im_MO_wrong se_MO_wrong c_MO h80.2.2 (Nat.le_of_ble_eq_true rfl) d_MO_readGroup_170 rfl ?_
                        intro v G174 hq
                        rcases hq with ⟨f2175, p2176, hv, hfk, hlk, hsk, hN80, hq177⟩
                        cases hv
                        have h84 := hfk.get h84 (by decide)
                        have h87 := hfk.get h87 (by decide)
                        have h88 := hfk.get h88 (by decide)
                        have h93 := hfk.get h93 (by decide)
                        have h81 := hfk.get h81 (by decide)
                        have h82 := hfk.get h82 (by decide)
                        have h91 := hfk.get h91 (by decide)
                        have h92 := hfk.get h92 (by decide)
                        have h110 := hfk.get h110 (by decide)
                        have h111 := hfk.get h111 (by decide)
                        have ptrI_0 := trI.fr hfk ptrI_0 (by decide) (by decide) (by decide) (by decide) (by decide) (by decide) (by decide) (by decide) (by decide) (by decide) (by decide) (by decide) (by decide) (by decide) (by decide) (by decide) (by decide) (by decide)
                        have hfr := hfr.tr hfk (by decide)
                        have hlen := hlk.trans hlen
                        have hsl := hsk.trans hsl
                        have h80 := hN80
                        change ab_W _ _ _ G174 173 [some (vR 80), some (vz m_at), some (vz nw2139), some (vz k2140), some (vz (-1))] [] _
                        refine ab_goto (tgt := 199) d_MO_readGroup_173 (by decide) ?_
                        refine ab_aload_n d_MO_readGroup_199 rfl ?_
                        refine ab_getf (fs := mof m_thrown m_taped m_length m_out m_wide m_gathered m_sets m_ranges m_nodes m_at m_flags f2175 p2176 m_numbered m_depth m_value m_isNot m_least0 m_most0 m_slot m_work m_got m_rowMany m_charAt m_charWide m_trail m_isMatch m_matchGroups m_allFrom m_allBefore m_founds m_pieces m_writtenMany m_templateWide m_tooMuch) f_MO_273 d_MO_readGroup_200 h80.2.2 rfl ?_
                        refine zz_if_le (tgt := 207) d_MO_readGroup_203 (by decide) (by omega) (fun c178 => absurd c178 (by omega)) (fun c178 => ?_)
                        refine ab_vret rfl d_MO_readGroup_206 ?_
                        rw [hQ]; exact (Or.inr ⟨_, _, _, _, _, _, _, _, _, _, _, _, _, _, _, _, _, _, _, _, _, _, rfl, hfr, hlen, hsl, h80, h87, h88, h93, h91, h92, h110, h111, ptrI_0, (by omega), (by first | exact jmk | exact rgs_w jmk (by omega)), (by first | exact jrl | exact rgs_w jrl (by omega)), (by first | exact jrh | exact rgs_w jrh (by omega)), (by first | exact jns | exact rgs_w jns (by omega)), (by first | exact jnm | exact rgs_w jnm (by omega))⟩)
                  · refine ab_aload_n d_MO_readGroup_108 rfl ?_
                    refine zz_bipush d_MO_readGroup_109 (by decide) ?_
                    refine ab_iload_n d_MO_readGroup_111 rfl ?_
                    refine ab_callV (d' := d - 1) (as := [vz 10, vz m_at]) (st := []) (r := _) (z_MO_wrong (o := o) (m_thrown := m_thrown) (m_taped := m_taped) (m_length := m_length) (m_out := m_out) (m_wide := m_wide) (m_gathered := m_gathered) (m_sets := m_sets) (m_ranges := m_ranges) (m_nodes := m_nodes) (m_at := m_at) (m_flags := m_flags) (m_fault := m_fault) (m_place := m_place) (m_numbered := m_numbered) (m_depth := m_depth) (m_value := m_value) (m_isNot := m_isNot) (m_least0 := m_least0) (m_most0 := m_most0) (m_slot := m_slot) (m_work := m_work) (m_got := m_got) (m_rowMany := m_rowMany) (m_charAt := m_charAt) (m_charWide := m_charWide) (m_trail := m_trail) (m_isMatch := m_isMatch) (m_matchGroups := m_matchGroups) (m_allFrom := m_allFrom) (m_allBefore := m_allBefore) (m_founds := m_founds) (m_pieces := m_pieces) (m_writtenMany := m_writtenMany) (m_templateWide := m_templateWide) (m_tooMuch := m_tooMuch) (x := 10) (y := m_at) h80 (by omega) (by omega)) (fun oc G2 h => by rcases h with ⟨_, _, h, _⟩ <;> exact ⟨_, h⟩) (by omega) m_MO_wrong ml_MO_304 im_MO_wrong se_MO_wrong c_MO h80.2.2 (Nat.le_of_ble_eq_true rfl) d_MO_readGroup_112 rfl ?_
                    intro v G179 hq
                    rcases hq with ⟨f2180, p2181, hv, hfk, hlk, hsk, hN80, hq182⟩
                    cases hv
                    have h84 := hfk.get h84 (by decide)
                    have h87 := hfk.get h87 (by decide)
                    have h88 := hfk.get h88 (by decide)
                    have h93 := hfk.get h93 (by decide)
                    have h81 := hfk.get h81 (by decide)
                    have h82 := hfk.get h82 (by decide)
                    have h91 := hfk.get h91 (by decide)
                    have h92 := hfk.get h92 (by decide)
                    have h110 := hfk.get h110 (by decide)
                    have h111 := hfk.get h111 (by decide)
                    have ptrI_0 := trI.fr hfk ptrI_0 (by decide) (by decide) (by decide) (by decide) (by decide) (by decide) (by decide) (by decide) (by decide) (by decide) (by decide) (by decide) (by decide) (by decide) (by decide) (by decide) (by decide) (by decide)
                    have hfr := hfr.tr hfk (by decide)
                    have hlen := hlk.trans hlen
                    have hsl := hsk.trans hsl
                    have h80 := hN80
                    change ab_W _ _ _ G179 115 [some (vR 80), some (vz m_at), some (vz nw210), some (vz (k211 + 1)), none] [] _
                    refine y_MO_readGroup_115 (m_thrown := m_thrown) (m_taped := m_taped) (m_length := m_length) (m_out := m_out) (m_wide := m_wide) (m_gathered := m_gathered) (m_sets := m_sets) (m_ranges := m_ranges) (m_nodes := m_nodes) (m_at := m_at) (m_flags := m_flags) (m_fault := f2180) (m_place := p2181) (m_numbered := m_numbered) (m_depth := m_depth) (m_value := m_value) (m_isNot := m_isNot) (m_least0 := m_least0) (m_most0 := m_most0) (m_slot := m_slot) (m_work := m_work) (m_got := m_got) (m_rowMany := m_rowMany) (m_charAt := m_charAt) (m_charWide := m_charWide) (m_trail := m_trail) (m_isMatch := m_isMatch) (m_matchGroups := m_matchGroups) (m_allFrom := m_allFrom) (m_allBefore := m_allBefore) (m_founds := m_founds) (m_pieces := m_pieces) (m_writtenMany := m_writtenMany) (m_templateWide := m_templateWide) (m_tooMuch := m_tooMuch) (A_tape := A_tape) (wh := m_at) (G0 := G179) (nw := nw210) (k := (k211 + 1)) (by omega) jtp (by omega) (by omega) (Int.toNat (m_taped - m_at - (k211 + 1)) + 1) h80 h84 (by omega) fx.rf rfl rfl (by omega) (fun G183 nw2184 k2185 hq186 hfk hlk hsk => ?_)
                    · have h80 := hfk.get h80 (by decide)
                      have h84 := hfk.get h84 (by decide)
                      have h87 := hfk.get h87 (by decide)
                      have h88 := hfk.get h88 (by decide)
                      have h93 := hfk.get h93 (by decide)
                      have h81 := hfk.get h81 (by decide)
                      have h82 := hfk.get h82 (by decide)
                      have h91 := hfk.get h91 (by decide)
                      have h92 := hfk.get h92 (by decide)
                      have h110 := hfk.get h110 (by decide)
                      have h111 := hfk.get h111 (by decide)
                      have ptrI_0 := trI.fr hfk ptrI_0 (by decide) (by decide) (by decide) (by decide) (by decide) (by decide) (by decide) (by decide) (by decide) (by decide) (by decide) (by decide) (by decide) (by decide) (by decide) (by decide) (by decide) (by decide)
                      have hfr := hfr.tr hfk (by decide)
                      have hlen := hlk.trans hlen
                      have hsl := hsk.trans hsl
                      change ab_W _ _ _ G183 145 [some (vR 80), some (vz m_at), some (vz nw2184), some (vz k2185), none] [] _
                      refine ab_aload_n d_MO_readGroup_145 rfl ?_
                      refine ab_iload_n d_MO_readGroup_146 rfl ?_
                      refine ab_callV (d' := d - 1) (as := [vz k2185]) (st := []) (r := _) (z_MO_here (o := o) (m_thrown := m_thrown) (m_taped := m_taped) (m_length := m_length) (m_out := m_out) (m_wide := m_wide) (m_gathered := m_gathered) (m_sets := m_sets) (m_ranges := m_ranges) (m_nodes := m_nodes) (m_at := m_at) (m_flags := m_flags) (m_fault := f2180) (m_place := p2181) (m_numbered := m_numbered) (m_depth := m_depth) (m_value := m_value) (m_isNot := m_isNot) (m_least0 := m_least0) (m_most0 := m_most0) (m_slot := m_slot) (m_work := m_work) (m_got := m_got) (m_rowMany := m_rowMany) (m_charAt := m_charAt) (m_charWide := m_charWide) (m_trail := m_trail) (m_isMatch := m_isMatch) (m_matchGroups := m_matchGroups) (m_allFrom := m_allFrom) (m_allBefore := m_allBefore) (m_founds := m_founds) (m_pieces := m_pieces) (m_writtenMany := m_writtenMany) (m_templateWide := m_templateWide) (m_tooMuch := m_tooMuch) (A_tape := A_tape) (k := k2185) h80 h84 (by omega) (by omega) jtp (by omega)) (fun oc G2 h => by rcases h with ⟨h, _⟩ | ⟨h, _⟩ <;> exact ⟨_, h⟩) (by omega) m_MO_here ml_MO_297 im_MO_here se_MO_here c_MO h80.2.2 (Nat.le_of_ble_eq_true rfl) d_MO_readGroup_147 rfl ?_
                      intro v G187 hq
                      rcases hq with ⟨hv, hGe, hq188⟩ | ⟨hv, hGe, hq189⟩
                      · cases hv
                        rw [hGe]
                        change ab_W _ _ _ G183 150 [some (vR 80), some (vz m_at), some (vz nw2184), some (vz k2185), none] [vz (A_tape (m_at + k2185))] _
                        refine ab_istore d_MO_readGroup_150 (Nat.le_of_ble_eq_true rfl) (Nat.le_of_ble_eq_true rfl) rfl ?_
                        change ab_W _ _ _ G183 152 [some (vR 80), some (vz m_at), some (vz nw2184), some (vz k2185), some (vz (A_tape (m_at + k2185)))] [] _
                        refine ab_iload d_MO_readGroup_152 rfl ?_
                        refine zz_bipush d_MO_readGroup_154 (by decide) ?_
                        refine zz_icmp_eq (tgt := 176) d_MO_readGroup_156 (by decide) (by omega) (by decide) (fun c190 => ?_) (fun c190 => ?_)
                        · refine ab_iload d_MO_readGroup_176 rfl ?_
                          refine zz_bipush d_MO_readGroup_178 (by decide) ?_
                          refine zz_icmp_ne (tgt := 199) d_MO_readGroup_180 (by decide) (by omega) (by decide) (fun c191 => absurd c191 (by omega)) (fun c191 => ?_)
                          refine ab_aload_n d_MO_readGroup_183 rfl ?_
                          refine ab_getf (fs := mof m_thrown m_taped m_length m_out m_wide m_gathered m_sets m_ranges m_nodes m_at m_flags f2180 p2181 m_numbered m_depth m_value m_isNot m_least0 m_most0 m_slot m_work m_got m_rowMany m_charAt m_charWide m_trail m_isMatch m_matchGroups m_allFrom m_allBefore m_founds m_pieces m_writtenMany m_templateWide m_tooMuch) f_MO_282 d_MO_readGroup_184 h80.2.2 rfl ?_
                          refine zz_bipush d_MO_readGroup_187 (by decide) ?_
                          refine zz_icmp_ne (tgt := 199) d_MO_readGroup_189 (by decide) (by omega) (by decide) (fun c192 => ?_) (fun c192 => ?_)
                          · refine ab_aload_n d_MO_readGroup_199 rfl ?_
                            refine ab_getf (fs := mof m_thrown m_taped m_length m_out m_wide m_gathered m_sets m_ranges m_nodes m_at m_flags f2180 p2181 m_numbered m_depth m_value m_isNot m_least0 m_most0 m_slot m_work m_got m_rowMany m_charAt m_charWide m_trail m_isMatch m_matchGroups m_allFrom m_allBefore m_founds m_pieces m_writtenMany m_templateWide m_tooMuch) f_MO_273 d_MO_readGroup_200 h80.2.2 rfl ?_
                            refine zz_if_le (tgt := 207) d_MO_readGroup_203 (by decide) (by omega) (fun c193 => absurd c193 (by omega)) (fun c193 => ?_)
                            refine ab_vret rfl d_MO_readGroup_206 ?_
                            rw [hQ]; exact (Or.inr ⟨_, _, _, _, _, _, _, _, _, _, _, _, _, _, _, _, _, _, _, _, _, _, rfl, hfr, hlen, hsl, h80, h87, h88, h93, h91, h92, h110, h111, ptrI_0, (by omega), (by first | exact jmk | exact rgs_w jmk (by omega)), (by first | exact jrl | exact rgs_w jrl (by omega)), (by first | exact jrh | exact rgs_w jrh (by omega)), (by first | exact jns | exact rgs_w jns (by omega)), (by first | exact jnm | exact rgs_w jnm (by omega))⟩)
                          · refine ab_aload_n d_MO_readGroup_192 rfl ?_
                            refine zz_bipush d_MO_readGroup_193 (by decide) ?_
                            refine ab_iload_n d_MO_readGroup_195 rfl ?_
                            refine ab_callV (d' := d - 1) (as := [vz 12, vz m_at]) (st := []) (r := _) (z_MO_wrong (o := o) (m_thrown := m_thrown) (m_taped := m_taped) (m_length := m_length) (m_out := m_out) (m_wide := m_wide) (m_gathered := m_gathered) (m_sets := m_sets) (m_ranges := m_ranges) (m_nodes := m_nodes) (m_at := m_at) (m_flags := m_flags) (m_fault := f2180) (m_place := p2181) (m_numbered := m_numbered) (m_depth := m_depth) (m_value := m_value) (m_isNot := m_isNot) (m_least0 := m_least0) (m_most0 := m_most0) (m_slot := m_slot) (m_work := m_work) (m_got := m_got) (m_rowMany := m_rowMany) (m_charAt := m_charAt) (m_charWide := m_charWide) (m_trail := m_trail) (m_isMatch := m_isMatch) (m_matchGroups := m_matchGroups) (m_allFrom := m_allFrom) (m_allBefore := m_allBefore) (m_founds := m_founds) (m_pieces := m_pieces) (m_writtenMany := m_writtenMany) (m_templateWide := m_templateWide) (m_tooMuch := m_tooMuch) (x := 12) (y := m_at) h80 (by omega) (by omega)) (fun oc G2 h => by rcases h with ⟨_, _, h, _⟩ <;> exact ⟨_, h⟩) (by omega) m_MO_wrong ml_MO_304 im_MO_wrong se_MO_wrong c_MO h80.2.2 (Nat.le_of_ble_eq_true rfl) d_MO_readGroup_196 rfl ?_
                            intro v G194 hq
                            rcases hq with ⟨f2195, p2196, hv, hfk, hlk, hsk, hN80, hq197⟩
                            cases hv
                            have h84 := hfk.get h84 (by decide)
                            have h87 := hfk.get h87 (by decide)
                            have h88 := hfk.get h88 (by decide)
                            have h93 := hfk.get h93 (by decide)
                            have h81 := hfk.get h81 (by decide)
                            have h82 := hfk.get h82 (by decide)
                            have h91 := hfk.get h91 (by decide)
                            have h92 := hfk.get h92 (by decide)
                            have h110 := hfk.get h110 (by decide)
                            have h111 := hfk.get h111 (by decide)
                            have ptrI_0 := trI.fr hfk ptrI_0 (by decide) (by decide) (by decide) (by decide) (by decide) (by decide) (by decide) (by decide) (by decide) (by decide) (by decide) (by decide) (by decide) (by decide) (by decide) (by decide) (by decide) (by decide)
                            have hfr := hfr.tr hfk (by decide)
                            have hlen := hlk.trans hlen
                            have hsl := hsk.trans hsl
                            have h80 := hN80
                            change ab_W _ _ _ G194 199 [some (vR 80), some (vz m_at), some (vz nw2184), some (vz k2185), some (vz (A_tape (m_at + k2185)))] [] _
                            refine ab_aload_n d_MO_readGroup_199 rfl ?_
                            refine ab_getf (fs := mof m_thrown m_taped m_length m_out m_wide m_gathered m_sets m_ranges m_nodes m_at m_flags f2195 p2196 m_numbered m_depth m_value m_isNot m_least0 m_most0 m_slot m_work m_got m_rowMany m_charAt m_charWide m_trail m_isMatch m_matchGroups m_allFrom m_allBefore m_founds m_pieces m_writtenMany m_templateWide m_tooMuch) f_MO_273 d_MO_readGroup_200 h80.2.2 rfl ?_
                            refine zz_if_le (tgt := 207) d_MO_readGroup_203 (by decide) (by omega) (fun c198 => absurd c198 (by omega)) (fun c198 => ?_)
                            refine ab_vret rfl d_MO_readGroup_206 ?_
                            rw [hQ]; exact (Or.inr ⟨_, _, _, _, _, _, _, _, _, _, _, _, _, _, _, _, _, _, _, _, _, _, rfl, hfr, hlen, hsl, h80, h87, h88, h93, h91, h92, h110, h111, ptrI_0, (by omega), (by first | exact jmk | exact rgs_w jmk (by omega)), (by first | exact jrl | exact rgs_w jrl (by omega)), (by first | exact jrh | exact rgs_w jrh (by omega)), (by first | exact jns | exact rgs_w jns (by omega)), (by first | exact jnm | exact rgs_w jnm (by omega))⟩)
                        · replace c190 : nzq (A_tape (m_at + k2185)) 58 := c190
                          refine ab_iload d_MO_readGroup_159 rfl ?_
                          refine zz_bipush d_MO_readGroup_161 (by decide) ?_
                          refine zz_icmp_eq (tgt := 176) d_MO_readGroup_163 (by decide) (by omega) (by decide) (fun c199 => ?_) (fun c199 => ?_)
                          · refine ab_iload d_MO_readGroup_176 rfl ?_
                            refine zz_bipush d_MO_readGroup_178 (by decide) ?_
                            refine zz_icmp_ne (tgt := 199) d_MO_readGroup_180 (by decide) (by omega) (by decide) (fun c200 => ?_) (fun c200 => absurd c200 (by omega))
                            refine ab_aload_n d_MO_readGroup_199 rfl ?_
                            refine ab_getf (fs := mof m_thrown m_taped m_length m_out m_wide m_gathered m_sets m_ranges m_nodes m_at m_flags f2180 p2181 m_numbered m_depth m_value m_isNot m_least0 m_most0 m_slot m_work m_got m_rowMany m_charAt m_charWide m_trail m_isMatch m_matchGroups m_allFrom m_allBefore m_founds m_pieces m_writtenMany m_templateWide m_tooMuch) f_MO_273 d_MO_readGroup_200 h80.2.2 rfl ?_
                            refine zz_if_le (tgt := 207) d_MO_readGroup_203 (by decide) (by omega) (fun c201 => absurd c201 (by omega)) (fun c201 => ?_)
                            refine ab_vret rfl d_MO_readGroup_206 ?_
                            rw [hQ]; exact (Or.inr ⟨_, _, _, _, _, _, _, _, _, _, _, _, _, _, _, _, _, _, _, _, _, _, rfl, hfr, hlen, hsl, h80, h87, h88, h93, h91, h92, h110, h111, ptrI_0, (by omega), (by first | exact jmk | exact rgs_w jmk (by omega)), (by first | exact jrl | exact rgs_w jrl (by omega)), (by first | exact jrh | exact rgs_w jrh (by omega)), (by first | exact jns | exact rgs_w jns (by omega)), (by first | exact jnm | exact rgs_w jnm (by omega))⟩)
                          · replace c199 : nzq (A_tape (m_at + k2185)) 41 := c199
                            refine ab_aload_n d_MO_readGroup_166 rfl ?_
                            refine zz_bipush d_MO_readGroup_167 (by decide) ?_
                            refine ab_iload_n d_MO_readGroup_169 rfl ?_
                            refine ab_callV (d' := d - 1) (as := [vz 10, vz m_at]) (st := []) (r := _) (z_MO_wrong (o := o) (m_thrown := m_thrown) (m_taped := m_taped) (m_length := m_length) (m_out := m_out) (m_wide := m_wide) (m_gathered := m_gathered) (m_sets := m_sets) (m_ranges := m_ranges) (m_nodes := m_nodes) (m_at := m_at) (m_flags := m_flags) (m_fault := f2180) (m_place := p2181) (m_numbered := m_numbered) (m_depth := m_depth) (m_value := m_value) (m_isNot := m_isNot) (m_least0 := m_least0) (m_most0 := m_most0) (m_slot := m_slot) (m_work := m_work) (m_got := m_got) (m_rowMany := m_rowMany) (m_charAt := m_charAt) (m_charWide := m_charWide) (m_trail := m_trail) (m_isMatch := m_isMatch) (m_matchGroups := m_matchGroups) (m_allFrom := m_allFrom) (m_allBefore := m_allBefore) (m_founds := m_founds) (m_pieces := m_pieces) (m_writtenMany := m_writtenMany) (m_templateWide := m_templateWide) (m_tooMuch := m_tooMuch) (x := 10) (y := m_at) h80 (by omega) (by omega)) (fun oc G2 h => by rcases h with ⟨_, _, h, _⟩ <;> exact ⟨_, h⟩) (by omega) m_MO_wrong ml_MO_304 im_MO_wrong se_MO_wrong c_MO h80.2.2 (Nat.le_of_ble_eq_true rfl) d_MO_readGroup_170 rfl ?_
                            intro v G202 hq
                            rcases hq with ⟨f2203, p2204, hv, hfk, hlk, hsk, hN80, hq205⟩
                            cases hv
                            have h84 := hfk.get h84 (by decide)
                            have h87 := hfk.get h87 (by decide)
                            have h88 := hfk.get h88 (by decide)
                            have h93 := hfk.get h93 (by decide)
                            have h81 := hfk.get h81 (by decide)
                            have h82 := hfk.get h82 (by decide)
                            have h91 := hfk.get h91 (by decide)
                            have h92 := hfk.get h92 (by decide)
                            have h110 := hfk.get h110 (by decide)
                            have h111 := hfk.get h111 (by decide)
                            have ptrI_0 := trI.fr hfk ptrI_0 (by decide) (by decide) (by decide) (by decide) (by decide) (by decide) (by decide) (by decide) (by decide) (by decide) (by decide) (by decide) (by decide) (by decide) (by decide) (by decide) (by decide) (by decide)
                            have hfr := hfr.tr hfk (by decide)
                            have hlen := hlk.trans hlen
                            have hsl := hsk.trans hsl
                            have h80 := hN80
                            change ab_W _ _ _ G202 173 [some (vR 80), some (vz m_at), some (vz nw2184), some (vz k2185), some (vz (A_tape (m_at + k2185)))] [] _
                            refine ab_goto (tgt := 199) d_MO_readGroup_173 (by decide) ?_
                            refine ab_aload_n d_MO_readGroup_199 rfl ?_
                            refine ab_getf (fs := mof m_thrown m_taped m_length m_out m_wide m_gathered m_sets m_ranges m_nodes m_at m_flags f2203 p2204 m_numbered m_depth m_value m_isNot m_least0 m_most0 m_slot m_work m_got m_rowMany m_charAt m_charWide m_trail m_isMatch m_matchGroups m_allFrom m_allBefore m_founds m_pieces m_writtenMany m_templateWide m_tooMuch) f_MO_273 d_MO_readGroup_200 h80.2.2 rfl ?_
                            refine zz_if_le (tgt := 207) d_MO_readGroup_203 (by decide) (by omega) (fun c206 => absurd c206 (by omega)) (fun c206 => ?_)
                            refine ab_vret rfl d_MO_readGroup_206 ?_
                            rw [hQ]; exact (Or.inr ⟨_, _, _, _, _, _, _, _, _, _, _, _, _, _, _, _, _, _, _, _, _, _, rfl, hfr, hlen, hsl, h80, h87, h88, h93, h91, h92, h110, h111, ptrI_0, (by omega), (by first | exact jmk | exact rgs_w jmk (by omega)), (by first | exact jrl | exact rgs_w jrl (by omega)), (by first | exact jrh | exact rgs_w jrh (by omega)), (by first | exact jns | exact rgs_w jns (by omega)), (by first | exact jnm | exact rgs_w jnm (by omega))⟩)
                      · cases hv
                        rw [hGe]
                        change ab_W _ _ _ G183 150 [some (vR 80), some (vz m_at), some (vz nw2184), some (vz k2185), none] [vz (-1)] _
                        refine ab_istore d_MO_readGroup_150 (Nat.le_of_ble_eq_true rfl) (Nat.le_of_ble_eq_true rfl) rfl ?_
                        change ab_W _ _ _ G183 152 [some (vR 80), some (vz m_at), some (vz nw2184), some (vz k2185), some (vz (-1))] [] _
                        refine ab_iload d_MO_readGroup_152 rfl ?_
                        refine zz_bipush d_MO_readGroup_154 (by decide) ?_
                        refine zz_icmp_eq (tgt := 176) d_MO_readGroup_156 (by decide) (by decide) (by decide) (fun c207 => absurd c207 (by decide)) (fun c207 => ?_)
                        refine ab_iload d_MO_readGroup_159 rfl ?_
                        refine zz_bipush d_MO_readGroup_161 (by decide) ?_
                        refine zz_icmp_eq (tgt := 176) d_MO_readGroup_163 (by decide) (by decide) (by decide) (fun c208 => absurd c208 (by decide)) (fun c208 => ?_)
                        refine ab_aload_n d_MO_readGroup_166 rfl ?_
                        refine zz_bipush d_MO_readGroup_167 (by decide) ?_
                        refine ab_iload_n d_MO_readGroup_169 rfl ?_
                        refine ab_callV (d' := d - 1) (as := [vz 10, vz m_at]) (st := []) (r := _) (z_MO_wrong (o := o) (m_thrown := m_thrown) (m_taped := m_taped) (m_length := m_length) (m_out := m_out) (m_wide := m_wide) (m_gathered := m_gathered) (m_sets := m_sets) (m_ranges := m_ranges) (m_nodes := m_nodes) (m_at := m_at) (m_flags := m_flags) (m_fault := f2180) (m_place := p2181) (m_numbered := m_numbered) (m_depth := m_depth) (m_value := m_value) (m_isNot := m_isNot) (m_least0 := m_least0) (m_most0 := m_most0) (m_slot := m_slot) (m_work := m_work) (m_got := m_got) (m_rowMany := m_rowMany) (m_charAt := m_charAt) (m_charWide := m_charWide) (m_trail := m_trail) (m_isMatch := m_isMatch) (m_matchGroups := m_matchGroups) (m_allFrom := m_allFrom) (m_allBefore := m_allBefore) (m_founds := m_founds) (m_pieces := m_pieces) (m_writtenMany := m_writtenMany) (m_templateWide := m_templateWide) (m_tooMuch := m_tooMuch) (x := 10) (y := m_at) h80 (by omega) (by omega)) (fun oc G2 h => by rcases h with ⟨_, _, h, _⟩ <;> exact ⟨_, h⟩) (by omega) m_MO_wrong ml_MO_304 im_MO_wrong se_MO_wrong c_MO h80.2.2 (Nat.le_of_ble_eq_true rfl) d_MO_readGroup_170 rfl ?_
                        intro v G209 hq
                        rcases hq with ⟨f2210, p2211, hv, hfk, hlk, hsk, hN80, hq212⟩
                        cases hv
                        have h84 := hfk.get h84 (by decide)
                        have h87 := hfk.get h87 (by decide)
                        have h88 := hfk.get h88 (by decide)
                        have h93 := hfk.get h93 (by decide)
                        have h81 := hfk.get h81 (by decide)
                        have h82 := hfk.get h82 (by decide)
                        have h91 := hfk.get h91 (by decide)
                        have h92 := hfk.get h92 (by decide)
                        have h110 := hfk.get h110 (by decide)
                        have h111 := hfk.get h111 (by decide)
                        have ptrI_0 := trI.fr hfk ptrI_0 (by decide) (by decide) (by decide) (by decide) (by decide) (by decide) (by decide) (by decide) (by decide) (by decide) (by decide) (by decide) (by decide) (by decide) (by decide) (by decide) (by decide) (by decide)
                        have hfr := hfr.tr hfk (by decide)
                        have hlen := hlk.trans hlen
                        have hsl := hsk.trans hsl
                        have h80 := hN80
                        change ab_W _ _ _ G209 173 [some (vR 80), some (vz m_at), some (vz nw2184), some (vz k2185), some (vz (-1))] [] _
                        refine ab_goto (tgt := 199) d_MO_readGroup_173 (by decide) ?_
                        refine ab_aload_n d_MO_readGroup_199 rfl ?_
                        refine ab_getf (fs := mof m_thrown m_taped m_length m_out m_wide m_gathered m_sets m_ranges m_nodes m_at m_flags f2210 p2211 m_numbered m_depth m_value m_isNot m_least0 m_most0 m_slot m_work m_got m_rowMany m_charAt m_charWide m_trail m_isMatch m_matchGroups m_allFrom m_allBefore m_founds m_pieces m_writtenMany m_templateWide m_tooMuch) f_MO_273 d_MO_readGroup_200 h80.2.2 rfl ?_
                        refine zz_if_le (tgt := 207) d_MO_readGroup_203 (by decide) (by omega) (fun c213 => absurd c213 (by omega)) (fun c213 => ?_)
                        refine ab_vret rfl d_MO_readGroup_206 ?_
                        rw [hQ]; exact (Or.inr ⟨_, _, _, _, _, _, _, _, _, _, _, _, _, _, _, _, _, _, _, _, _, _, rfl, hfr, hlen, hsl, h80, h87, h88, h93, h91, h92, h110, h111, ptrI_0, (by omega), (by first | exact jmk | exact rgs_w jmk (by omega)), (by first | exact jrl | exact rgs_w jrl (by omega)), (by first | exact jrh | exact rgs_w jrh (by omega)), (by first | exact jns | exact rgs_w jns (by omega)), (by first | exact jnm | exact rgs_w jnm (by omega))⟩)
            · cases hv
              rw [hGe]
              change ab_W _ _ _ G9 89 [some (vR 80), some (vz m_at), some (vz nw210), some (vz k211), none] [vz (-1)] _
              refine zz_bipush d_MO_readGroup_89 (by decide) ?_
              refine zz_icmp_ne (tgt := 145) d_MO_readGroup_91 (by decide) (by decide) (by decide) (fun c214 => ?_) (fun c214 => absurd c214 (by decide))
              refine ab_aload_n d_MO_readGroup_145 rfl ?_
              refine ab_iload_n d_MO_readGroup_146 rfl ?_
              refine ab_callV (d' := d - 1) (as := [vz k211]) (st := []) (r := _) (z_MO_here (o := o) (m_thrown := m_thrown) (m_taped := m_taped) (m_length := m_length) (m_out := m_out) (m_wide := m_wide) (m_gathered := m_gathered) (m_sets := m_sets) (m_ranges := m_ranges) (m_nodes := m_nodes) (m_at := m_at) (m_flags := m_flags) (m_fault := m_fault) (m_place := m_place) (m_numbered := m_numbered) (m_depth := m_depth) (m_value := m_value) (m_isNot := m_isNot) (m_least0 := m_least0) (m_most0 := m_most0) (m_slot := m_slot) (m_work := m_work) (m_got := m_got) (m_rowMany := m_rowMany) (m_charAt := m_charAt) (m_charWide := m_charWide) (m_trail := m_trail) (m_isMatch := m_isMatch) (m_matchGroups := m_matchGroups) (m_allFrom := m_allFrom) (m_allBefore := m_allBefore) (m_founds := m_founds) (m_pieces := m_pieces) (m_writtenMany := m_writtenMany) (m_templateWide := m_templateWide) (m_tooMuch := m_tooMuch) (A_tape := A_tape) (k := k211) h80 h84 (by omega) (by omega) jtp (by omega)) (fun oc G2 h => by rcases h with ⟨h, _⟩ | ⟨h, _⟩ <;> exact ⟨_, h⟩) (by omega) m_MO_here ml_MO_297 im_MO_here se_MO_here c_MO h80.2.2 (Nat.le_of_ble_eq_true rfl) d_MO_readGroup_147 rfl ?_
              intro v G215 hq
              rcases hq with ⟨hv, hGe, hq216⟩ | ⟨hv, hGe, hq217⟩
              · cases hv
                rw [hGe]
                change ab_W _ _ _ G9 150 [some (vR 80), some (vz m_at), some (vz nw210), some (vz k211), none] [vz (A_tape (m_at + k211))] _
                exfalso; omega
              · cases hv
                rw [hGe]
                change ab_W _ _ _ G9 150 [some (vR 80), some (vz m_at), some (vz nw210), some (vz k211), none] [vz (-1)] _
                refine ab_istore d_MO_readGroup_150 (Nat.le_of_ble_eq_true rfl) (Nat.le_of_ble_eq_true rfl) rfl ?_
                change ab_W _ _ _ G9 152 [some (vR 80), some (vz m_at), some (vz nw210), some (vz k211), some (vz (-1))] [] _
                refine ab_iload d_MO_readGroup_152 rfl ?_
                refine zz_bipush d_MO_readGroup_154 (by decide) ?_
                refine zz_icmp_eq (tgt := 176) d_MO_readGroup_156 (by decide) (by decide) (by decide) (fun c218 => absurd c218 (by decide)) (fun c218 => ?_)
                refine ab_iload d_MO_readGroup_159 rfl ?_
                refine zz_bipush d_MO_readGroup_161 (by decide) ?_
                refine zz_icmp_eq (tgt := 176) d_MO_readGroup_163 (by decide) (by decide) (by decide) (fun c219 => absurd c219 (by decide)) (fun c219 => ?_)
                refine ab_aload_n d_MO_readGroup_166 rfl ?_
                refine zz_bipush d_MO_readGroup_167 (by decide) ?_
                refine ab_iload_n d_MO_readGroup_169 rfl ?_
                refine ab_callV (d' := d - 1) (as := [vz 10, vz m_at]) (st := []) (r := _) (z_MO_wrong (o := o) (m_thrown := m_thrown) (m_taped := m_taped) (m_length := m_length) (m_out := m_out) (m_wide := m_wide) (m_gathered := m_gathered) (m_sets := m_sets) (m_ranges := m_ranges) (m_nodes := m_nodes) (m_at := m_at) (m_flags := m_flags) (m_fault := m_fault) (m_place := m_place) (m_numbered := m_numbered) (m_depth := m_depth) (m_value := m_value) (m_isNot := m_isNot) (m_least0 := m_least0) (m_most0 := m_most0) (m_slot := m_slot) (m_work := m_work) (m_got := m_got) (m_rowMany := m_rowMany) (m_charAt := m_charAt) (m_charWide := m_charWide) (m_trail := m_trail) (m_isMatch := m_isMatch) (m_matchGroups := m_matchGroups) (m_allFrom := m_allFrom) (m_allBefore := m_allBefore) (m_founds := m_founds) (m_pieces := m_pieces) (m_writtenMany := m_writtenMany) (m_templateWide := m_templateWide) (m_tooMuch := m_tooMuch) (x := 10) (y := m_at) h80 (by omega) (by omega)) (fun oc G2 h => by rcases h with ⟨_, _, h, _⟩ <;> exact ⟨_, h⟩) (by omega) m_MO_wrong ml_MO_304 im_MO_wrong se_MO_wrong c_MO h80.2.2 (Nat.le_of_ble_eq_true rfl) d_MO_readGroup_170 rfl ?_
                intro v G220 hq
                rcases hq with ⟨f2221, p2222, hv, hfk, hlk, hsk, hN80, hq223⟩
                cases hv
                have h84 := hfk.get h84 (by decide)
                have h87 := hfk.get h87 (by decide)
                have h88 := hfk.get h88 (by decide)
                have h93 := hfk.get h93 (by decide)
                have h81 := hfk.get h81 (by decide)
                have h82 := hfk.get h82 (by decide)
                have h91 := hfk.get h91 (by decide)
                have h92 := hfk.get h92 (by decide)
                have h110 := hfk.get h110 (by decide)
                have h111 := hfk.get h111 (by decide)
                have ptrI_0 := trI.fr hfk ptrI_0 (by decide) (by decide) (by decide) (by decide) (by decide) (by decide) (by decide) (by decide) (by decide) (by decide) (by decide) (by decide) (by decide) (by decide) (by decide) (by decide) (by decide) (by decide)
                have hfr := hfr.tr hfk (by decide)
                have hlen := hlk.trans hlen
                have hsl := hsk.trans hsl
                have h80 := hN80
                change ab_W _ _ _ G220 173 [some (vR 80), some (vz m_at), some (vz nw210), some (vz k211), some (vz (-1))] [] _
                refine ab_goto (tgt := 199) d_MO_readGroup_173 (by decide) ?_
                refine ab_aload_n d_MO_readGroup_199 rfl ?_
                refine ab_getf (fs := mof m_thrown m_taped m_length m_out m_wide m_gathered m_sets m_ranges m_nodes m_at m_flags f2221 p2222 m_numbered m_depth m_value m_isNot m_least0 m_most0 m_slot m_work m_got m_rowMany m_charAt m_charWide m_trail m_isMatch m_matchGroups m_allFrom m_allBefore m_founds m_pieces m_writtenMany m_templateWide m_tooMuch) f_MO_273 d_MO_readGroup_200 h80.2.2 rfl ?_
                refine zz_if_le (tgt := 207) d_MO_readGroup_203 (by decide) (by omega) (fun c224 => absurd c224 (by omega)) (fun c224 => ?_)
                refine ab_vret rfl d_MO_readGroup_206 ?_
                rw [hQ]; exact (Or.inr ⟨_, _, _, _, _, _, _, _, _, _, _, _, _, _, _, _, _, _, _, _, _, _, rfl, hfr, hlen, hsl, h80, h87, h88, h93, h91, h92, h110, h111, ptrI_0, (by omega), (by first | exact jmk | exact rgs_w jmk (by omega)), (by first | exact jrl | exact rgs_w jrl (by omega)), (by first | exact jrh | exact rgs_w jrh (by omega)), (by first | exact jns | exact rgs_w jns (by omega)), (by first | exact jnm | exact rgs_w jnm (by omega))⟩)
        · refine ab_aload_n d_MO_readGroup_43 rfl ?_
          refine ab_iload_n d_MO_readGroup_44 rfl ?_
          refine ab_callV (d' := d - 1) (as := [vz m_at]) (st := []) (r := _) (z_MO_readName (o := o) (m_thrown := m_thrown) (m_taped := m_taped) (m_length := m_length) (m_out := m_out) (m_wide := m_wide) (m_gathered := m_gathered) (m_sets := m_sets) (m_ranges := m_ranges) (m_nodes := m_nodes) (m_at := m_at) (m_flags := m_flags) (m_fault := m_fault) (m_place := m_place) (m_numbered := m_numbered) (m_depth := m_depth) (m_value := m_value) (m_isNot := m_isNot) (m_least0 := m_least0) (m_most0 := m_most0) (m_slot := m_slot) (m_work := m_work) (m_got := m_got) (m_rowMany := m_rowMany) (m_charAt := m_charAt) (m_charWide := m_charWide) (m_trail := m_trail) (m_isMatch := m_isMatch) (m_matchGroups := m_matchGroups) (m_allFrom := m_allFrom) (m_allBefore := m_allBefore) (m_founds := m_founds) (m_pieces := m_pieces) (m_writtenMany := m_writtenMany) (m_templateWide := m_templateWide) (m_tooMuch := m_tooMuch) (A_tape := A_tape) (LO := LO) (HI := HI) (MK := MK) (RL := RL) (RH := RH) (NS := NS) (NM := NM) (wh := m_at) h80 h84 h87 h88 h93 h81 h82 h91 h92 h110 h111 ptrI_0 (by omega) (by omega) jtp jmk jrl jrh jns jnm (by omega) (by omega) (by omega) (by omega) (by omega)) (fun oc G2 h => by rcases h with ⟨_, _, _, _, _, _, _, _, _, _, _, _, _, _, _, _, _, _, _, _, _, _, h, _⟩ | ⟨_, _, _, _, _, _, _, _, _, _, _, _, _, _, _, _, _, _, _, _, _, _, h, _⟩ <;> exact ⟨_, h⟩) (by omega) m_MO_readName ml_MO_386 im_MO_readName se_MO_readName c_MO h80.2.2 (Nat.le_of_ble_eq_true rfl) d_MO_readGroup_45 rfl ?_
          intro v G225 hq
          rcases hq with ⟨a2226, v2227, nt2228, w2229, g2230, s2231, r2232, n2233, fl2234, nu2235, d2236, le2237, mo2238, f2239, p2240, LO2241, HI2242, MK2243, RL2244, RH2245, NS2246, NM2247, hv, hfk, hlk, hsk, hN80, hN87, hN88, hN93, hN91, hN92, hN110, hN111, pNtrI_0, hq248, hq249, hq250, hq251, hq252, hq253⟩ | ⟨a2254, v2255, nt2256, w2257, g2258, s2259, r2260, n2261, fl2262, nu2263, d2264, le2265, mo2266, f2267, p2268, LO2269, HI2270, MK2271, RL2272, RH2273, NS2274, NM2275, hv, hfk, hlk, hsk, hN80, hN87, hN88, hN93, hN91, hN92, hN110, hN111, pNtrI_0, hq276, hq277, hq278, hq279, hq280, hq281⟩
          · cases hv
            have h84 := hfk.get h84 (by decide)
            have h81 := hfk.get h81 (by decide)
            have h82 := hfk.get h82 (by decide)
            have ptrI_0 := pNtrI_0
            have hfr := hfr.tr hfk (by decide)
            have hlen := hlk.trans hlen
            have hsl := hsk.trans hsl
            have h80 := hN80
            have h87 := hN87
            have h88 := hN88
            have h93 := hN93
            have h91 := hN91
            have h92 := hN92
            have h110 := hN110
            have h111 := hN111
            change ab_W _ _ _ G225 48 [some (vR 80), some (vz m_at), none, none, none] [] _
            refine ab_vret rfl d_MO_readGroup_48 ?_
            rw [hQ]; exact (Or.inl ⟨_, _, _, _, _, _, _, _, _, _, _, _, _, _, _, _, _, _, _, _, _, _, rfl, hfr, hlen, hsl, h80, h87, h88, h93, h91, h92, h110, h111, ptrI_0, (by omega), (by first | exact hq249 | exact rgs_w hq249 (by omega)), (by first | exact hq250 | exact rgs_w hq250 (by omega)), (by first | exact hq251 | exact rgs_w hq251 (by omega)), (by first | exact hq252 | exact rgs_w hq252 (by omega)), (by first | exact hq253 | exact rgs_w hq253 (by omega))⟩)
          · cases hv
            have h84 := hfk.get h84 (by decide)
            have h81 := hfk.get h81 (by decide)
            have h82 := hfk.get h82 (by decide)
            have ptrI_0 := pNtrI_0
            have hfr := hfr.tr hfk (by decide)
            have hlen := hlk.trans hlen
            have hsl := hsk.trans hsl
            have h80 := hN80
            have h87 := hN87
            have h88 := hN88
            have h93 := hN93
            have h91 := hN91
            have h92 := hN92
            have h110 := hN110
            have h111 := hN111
            change ab_W _ _ _ G225 48 [some (vR 80), some (vz m_at), none, none, none] [] _
            refine ab_vret rfl d_MO_readGroup_48 ?_
            rw [hQ]; exact (Or.inr ⟨_, _, _, _, _, _, _, _, _, _, _, _, _, _, _, _, _, _, _, _, _, _, rfl, hfr, hlen, hsl, h80, h87, h88, h93, h91, h92, h110, h111, ptrI_0, (by omega), (by first | exact hq277 | exact rgs_w hq277 (by omega)), (by first | exact hq278 | exact rgs_w hq278 (by omega)), (by first | exact hq279 | exact rgs_w hq279 (by omega)), (by first | exact hq280 | exact rgs_w hq280 (by omega)), (by first | exact hq281 | exact rgs_w hq281 (by omega))⟩)
      · cases hv
        rw [hGe]
        change ab_W _ _ _ G 38 [some (vR 80), some (vz m_at), none, none, none] [vz (-1)] _
        refine zz_bipush d_MO_readGroup_38 (by decide) ?_
        refine zz_icmp_ne (tgt := 49) d_MO_readGroup_40 (by decide) (by decide) (by decide) (fun c282 => ?_) (fun c282 => absurd c282 (by decide))
        refine ab_aload_n d_MO_readGroup_49 rfl ?_
        refine ab_getf (fs := mof m_thrown m_taped m_length m_out m_wide m_gathered m_sets m_ranges m_nodes m_at m_flags m_fault m_place m_numbered m_depth m_value m_isNot m_least0 m_most0 m_slot m_work m_got m_rowMany m_charAt m_charWide m_trail m_isMatch m_matchGroups m_allFrom m_allBefore m_founds m_pieces m_writtenMany m_templateWide m_tooMuch) f_MO_276 d_MO_readGroup_50 h80.2.2 rfl ?_
        refine ab_istore_n d_MO_readGroup_53 (Nat.le_of_ble_eq_true rfl) (Nat.le_of_ble_eq_true rfl) rfl ?_
        change ab_W _ _ _ G 54 [some (vR 80), some (vz m_at), some (vz m_flags), none, none] [] _
        refine zz_iconst d_MO_readGroup_54 ?_
        refine ab_istore_n d_MO_readGroup_55 (Nat.le_of_ble_eq_true rfl) (Nat.le_of_ble_eq_true rfl) rfl ?_
        change ab_W _ _ _ G 56 [some (vR 80), some (vz m_at), some (vz m_flags), some (vz 2), none] [] _
        refine y_MO_readGroup_56 (m_thrown := m_thrown) (m_taped := m_taped) (m_length := m_length) (m_out := m_out) (m_wide := m_wide) (m_gathered := m_gathered) (m_sets := m_sets) (m_ranges := m_ranges) (m_nodes := m_nodes) (m_at := m_at) (m_flags := m_flags) (m_fault := m_fault) (m_place := m_place) (m_numbered := m_numbered) (m_depth := m_depth) (m_value := m_value) (m_isNot := m_isNot) (m_least0 := m_least0) (m_most0 := m_most0) (m_slot := m_slot) (m_work := m_work) (m_got := m_got) (m_rowMany := m_rowMany) (m_charAt := m_charAt) (m_charWide := m_charWide) (m_trail := m_trail) (m_isMatch := m_isMatch) (m_matchGroups := m_matchGroups) (m_allFrom := m_allFrom) (m_allBefore := m_allBefore) (m_founds := m_founds) (m_pieces := m_pieces) (m_writtenMany := m_writtenMany) (m_templateWide := m_templateWide) (m_tooMuch := m_tooMuch) (A_tape := A_tape) (wh := m_at) (G0 := G) (nw := m_flags) (k := 2) (by omega) jtp (by omega) (by omega) (Int.toNat (m_taped - m_at - 2) + 1) h80 h84 (by omega) fx.rf rfl rfl (by omega) (fun G283 nw2284 k2285 hq286 hfk hlk hsk => ?_)
        · have h80 := hfk.get h80 (by decide)
          have h84 := hfk.get h84 (by decide)
          have h87 := hfk.get h87 (by decide)
          have h88 := hfk.get h88 (by decide)
          have h93 := hfk.get h93 (by decide)
          have h81 := hfk.get h81 (by decide)
          have h82 := hfk.get h82 (by decide)
          have h91 := hfk.get h91 (by decide)
          have h92 := hfk.get h92 (by decide)
          have h110 := hfk.get h110 (by decide)
          have h111 := hfk.get h111 (by decide)
          have ptrI_0 := trI.fr hfk ptrI_0 (by decide) (by decide) (by decide) (by decide) (by decide) (by decide) (by decide) (by decide) (by decide) (by decide) (by decide) (by decide) (by decide) (by decide) (by decide) (by decide) (by decide) (by decide)
          have hfr := hfr.tr hfk (by decide)
          have hlen := hlk.trans hlen
          have hsl := hsk.trans hsl
          change ab_W _ _ _ G283 84 [some (vR 80), some (vz m_at), some (vz nw2284), some (vz k2285), none] [] _
          refine ab_aload_n d_MO_readGroup_84 rfl ?_
          refine ab_iload_n d_MO_readGroup_85 rfl ?_
          refine ab_callV (d' := d - 1) (as := [vz k2285]) (st := []) (r := _) (z_MO_here (o := o) (m_thrown := m_thrown) (m_taped := m_taped) (m_length := m_length) (m_out := m_out) (m_wide := m_wide) (m_gathered := m_gathered) (m_sets := m_sets) (m_ranges := m_ranges) (m_nodes := m_nodes) (m_at := m_at) (m_flags := m_flags) (m_fault := m_fault) (m_place := m_place) (m_numbered := m_numbered) (m_depth := m_depth) (m_value := m_value) (m_isNot := m_isNot) (m_least0 := m_least0) (m_most0 := m_most0) (m_slot := m_slot) (m_work := m_work) (m_got := m_got) (m_rowMany := m_rowMany) (m_charAt := m_charAt) (m_charWide := m_charWide) (m_trail := m_trail) (m_isMatch := m_isMatch) (m_matchGroups := m_matchGroups) (m_allFrom := m_allFrom) (m_allBefore := m_allBefore) (m_founds := m_founds) (m_pieces := m_pieces) (m_writtenMany := m_writtenMany) (m_templateWide := m_templateWide) (m_tooMuch := m_tooMuch) (A_tape := A_tape) (k := k2285) h80 h84 (by omega) (by omega) jtp (by omega)) (fun oc G2 h => by rcases h with ⟨h, _⟩ | ⟨h, _⟩ <;> exact ⟨_, h⟩) (by omega) m_MO_here ml_MO_297 im_MO_here se_MO_here c_MO h80.2.2 (Nat.le_of_ble_eq_true rfl) d_MO_readGroup_86 rfl ?_
          intro v G287 hq
          rcases hq with ⟨hv, hGe, hq288⟩ | ⟨hv, hGe, hq289⟩
          · cases hv
            rw [hGe]
            change ab_W _ _ _ G283 89 [some (vR 80), some (vz m_at), some (vz nw2284), some (vz k2285), none] [vz (A_tape (m_at + k2285))] _
            exfalso; omega
          · cases hv
            rw [hGe]
            change ab_W _ _ _ G283 89 [some (vR 80), some (vz m_at), some (vz nw2284), some (vz k2285), none] [vz (-1)] _
            refine zz_bipush d_MO_readGroup_89 (by decide) ?_
            refine zz_icmp_ne (tgt := 145) d_MO_readGroup_91 (by decide) (by decide) (by decide) (fun c290 => ?_) (fun c290 => absurd c290 (by decide))
            refine ab_aload_n d_MO_readGroup_145 rfl ?_
            refine ab_iload_n d_MO_readGroup_146 rfl ?_
            refine ab_callV (d' := d - 1) (as := [vz k2285]) (st := []) (r := _) (z_MO_here (o := o) (m_thrown := m_thrown) (m_taped := m_taped) (m_length := m_length) (m_out := m_out) (m_wide := m_wide) (m_gathered := m_gathered) (m_sets := m_sets) (m_ranges := m_ranges) (m_nodes := m_nodes) (m_at := m_at) (m_flags := m_flags) (m_fault := m_fault) (m_place := m_place) (m_numbered := m_numbered) (m_depth := m_depth) (m_value := m_value) (m_isNot := m_isNot) (m_least0 := m_least0) (m_most0 := m_most0) (m_slot := m_slot) (m_work := m_work) (m_got := m_got) (m_rowMany := m_rowMany) (m_charAt := m_charAt) (m_charWide := m_charWide) (m_trail := m_trail) (m_isMatch := m_isMatch) (m_matchGroups := m_matchGroups) (m_allFrom := m_allFrom) (m_allBefore := m_allBefore) (m_founds := m_founds) (m_pieces := m_pieces) (m_writtenMany := m_writtenMany) (m_templateWide := m_templateWide) (m_tooMuch := m_tooMuch) (A_tape := A_tape) (k := k2285) h80 h84 (by omega) (by omega) jtp (by omega)) (fun oc G2 h => by rcases h with ⟨h, _⟩ | ⟨h, _⟩ <;> exact ⟨_, h⟩) (by omega) m_MO_here ml_MO_297 im_MO_here se_MO_here c_MO h80.2.2 (Nat.le_of_ble_eq_true rfl) d_MO_readGroup_147 rfl ?_
            intro v G291 hq
            rcases hq with ⟨hv, hGe, hq292⟩ | ⟨hv, hGe, hq293⟩
            · cases hv
              rw [hGe]
              change ab_W _ _ _ G283 150 [some (vR 80), some (vz m_at), some (vz nw2284), some (vz k2285), none] [vz (A_tape (m_at + k2285))] _
              exfalso; omega
            · cases hv
              rw [hGe]
              change ab_W _ _ _ G283 150 [some (vR 80), some (vz m_at), some (vz nw2284), some (vz k2285), none] [vz (-1)] _
              refine ab_istore d_MO_readGroup_150 (Nat.le_of_ble_eq_true rfl) (Nat.le_of_ble_eq_true rfl) rfl ?_
              change ab_W _ _ _ G283 152 [some (vR 80), some (vz m_at), some (vz nw2284), some (vz k2285), some (vz (-1))] [] _
              refine ab_iload d_MO_readGroup_152 rfl ?_
              refine zz_bipush d_MO_readGroup_154 (by decide) ?_
              refine zz_icmp_eq (tgt := 176) d_MO_readGroup_156 (by decide) (by decide) (by decide) (fun c294 => absurd c294 (by decide)) (fun c294 => ?_)
              refine ab_iload d_MO_readGroup_159 rfl ?_
              refine zz_bipush d_MO_readGroup_161 (by decide) ?_
              refine zz_icmp_eq (tgt := 176) d_MO_readGroup_163 (by decide) (by decide) (by decide) (fun c295 => absurd c295 (by decide)) (fun c295 => ?_)
              refine ab_aload_n d_MO_readGroup_166 rfl ?_
              refine zz_bipush d_MO_readGroup_167 (by decide) ?_
              refine ab_iload_n d_MO_readGroup_169 rfl ?_
              refine ab_callV (d' := d - 1) (as := [vz 10, vz m_at]) (st := []) (r := _) (z_MO_wrong (o := o) (m_thrown := m_thrown) (m_taped := m_taped) (m_length := m_length) (m_out := m_out) (m_wide := m_wide) (m_gathered := m_gathered) (m_sets := m_sets) (m_ranges := m_ranges) (m_nodes := m_nodes) (m_at := m_at) (m_flags := m_flags) (m_fault := m_fault) (m_place := m_place) (m_numbered := m_numbered) (m_depth := m_depth) (m_value := m_value) (m_isNot := m_isNot) (m_least0 := m_least0) (m_most0 := m_most0) (m_slot := m_slot) (m_work := m_work) (m_got := m_got) (m_rowMany := m_rowMany) (m_charAt := m_charAt) (m_charWide := m_charWide) (m_trail := m_trail) (m_isMatch := m_isMatch) (m_matchGroups := m_matchGroups) (m_allFrom := m_allFrom) (m_allBefore := m_allBefore) (m_founds := m_founds) (m_pieces := m_pieces) (m_writtenMany := m_writtenMany) (m_templateWide := m_templateWide) (m_tooMuch := m_tooMuch) (x := 10) (y := m_at) h80 (by omega) (by omega)) (fun oc G2 h => by rcases h with ⟨_, _, h, _⟩ <;> exact ⟨_, h⟩) (by omega) m_MO_wrong ml_MO_304 im_MO_wrong se_MO_wrong c_MO h80.2.2 (Nat.le_of_ble_eq_true rfl) d_MO_readGroup_170 rfl ?_
              intro v G296 hq
              rcases hq with ⟨f2297, p2298, hv, hfk, hlk, hsk, hN80, hq299⟩
              cases hv
              have h84 := hfk.get h84 (by decide)
              have h87 := hfk.get h87 (by decide)
              have h88 := hfk.get h88 (by decide)
              have h93 := hfk.get h93 (by decide)
              have h81 := hfk.get h81 (by decide)
              have h82 := hfk.get h82 (by decide)
              have h91 := hfk.get h91 (by decide)
              have h92 := hfk.get h92 (by decide)
              have h110 := hfk.get h110 (by decide)
              have h111 := hfk.get h111 (by decide)
              have ptrI_0 := trI.fr hfk ptrI_0 (by decide) (by decide) (by decide) (by decide) (by decide) (by decide) (by decide) (by decide) (by decide) (by decide) (by decide) (by decide) (by decide) (by decide) (by decide) (by decide) (by decide) (by decide)
              have hfr := hfr.tr hfk (by decide)
              have hlen := hlk.trans hlen
              have hsl := hsk.trans hsl
              have h80 := hN80
              change ab_W _ _ _ G296 173 [some (vR 80), some (vz m_at), some (vz nw2284), some (vz k2285), some (vz (-1))] [] _
              refine ab_goto (tgt := 199) d_MO_readGroup_173 (by decide) ?_
              refine ab_aload_n d_MO_readGroup_199 rfl ?_
              refine ab_getf (fs := mof m_thrown m_taped m_length m_out m_wide m_gathered m_sets m_ranges m_nodes m_at m_flags f2297 p2298 m_numbered m_depth m_value m_isNot m_least0 m_most0 m_slot m_work m_got m_rowMany m_charAt m_charWide m_trail m_isMatch m_matchGroups m_allFrom m_allBefore m_founds m_pieces m_writtenMany m_templateWide m_tooMuch) f_MO_273 d_MO_readGroup_200 h80.2.2 rfl ?_
              refine zz_if_le (tgt := 207) d_MO_readGroup_203 (by decide) (by omega) (fun c300 => absurd c300 (by omega)) (fun c300 => ?_)
              refine ab_vret rfl d_MO_readGroup_206 ?_
              rw [hQ]; exact (Or.inr ⟨_, _, _, _, _, _, _, _, _, _, _, _, _, _, _, _, _, _, _, _, _, _, rfl, hfr, hlen, hsl, h80, h87, h88, h93, h91, h92, h110, h111, ptrI_0, (by omega), (by first | exact jmk | exact rgs_w jmk (by omega)), (by first | exact jrl | exact rgs_w jrl (by omega)), (by first | exact jrh | exact rgs_w jrh (by omega)), (by first | exact jns | exact rgs_w jns (by omega)), (by first | exact jnm | exact rgs_w jnm (by omega))⟩)
    · replace c4 : nzq (A_tape (m_at + 1)) 63 := c4
      refine ab_aload_n d_MO_readGroup_15 rfl ?_
      refine ab_dup d_MO_readGroup_16 rfl ?_
      refine ab_getf (fs := mof m_thrown m_taped m_length m_out m_wide m_gathered m_sets m_ranges m_nodes m_at m_flags m_fault m_place m_numbered m_depth m_value m_isNot m_least0 m_most0 m_slot m_work m_got m_rowMany m_charAt m_charWide m_trail m_isMatch m_matchGroups m_allFrom m_allBefore m_founds m_pieces m_writtenMany m_templateWide m_tooMuch) f_MO_279 d_MO_readGroup_17 h80.2.2 rfl ?_
      refine zz_iconst d_MO_readGroup_20 ?_
      refine zz_iadd d_MO_readGroup_21 ?_
      refine ab_putf (fs := mof m_thrown m_taped m_length m_out m_wide m_gathered m_sets m_ranges m_nodes m_at m_flags m_fault m_place m_numbered m_depth m_value m_isNot m_least0 m_most0 m_slot m_work m_got m_rowMany m_charAt m_charWide m_trail m_isMatch m_matchGroups m_allFrom m_allBefore m_founds m_pieces m_writtenMany m_templateWide m_tooMuch) f_MO_279 (Or.inl rfl) d_MO_readGroup_22 h80.2.2 (Nat.le_of_ble_eq_true rfl) (fun _ => ⟨rfl, rfl⟩) (h80.2.1 (by decide)) ?_
      obtain ⟨G301, eG301⟩ : ∃ z : ab_G, z = List.set G 80 (ab_ob 12 (mof m_thrown m_taped m_length m_out m_wide m_gathered m_sets m_ranges m_nodes (m_at + 1) m_flags m_fault m_place m_numbered m_depth m_value m_isNot m_least0 m_most0 m_slot m_work m_got m_rowMany m_charAt m_charWide m_trail m_isMatch m_matchGroups m_allFrom m_allBefore m_founds m_pieces m_writtenMany m_templateWide m_tooMuch)) := ⟨_, rfl⟩
      have h84 := h84.keep h80 eG301 (by decide)
      have h87 := h87.keep h80 eG301 (by decide)
      have h88 := h88.keep h80 eG301 (by decide)
      have h93 := h93.keep h80 eG301 (by decide)
      have h81 := h81.keep h80 eG301 (by decide)
      have h82 := h82.keep h80 eG301 (by decide)
      have h91 := h91.keep h80 eG301 (by decide)
      have h92 := h92.keep h80 eG301 (by decide)
      have h110 := h110.keep h80 eG301 (by decide)
      have h111 := h111.keep h80 eG301 (by decide)
      have hst := (fx.rf (o := o) (S := [280]) (G := G)).wr h80 eG301 (List.mem_singleton.mpr rfl)
      have ptrI_0 := trI.fr hst ptrI_0 (by decide) (by decide) (by decide) (by decide) (by decide) (by decide) (by decide) (by decide) (by decide) (by decide) (by decide) (by decide) (by decide) (by decide) (by decide) (by decide) (by decide) (by decide)
      have hlen := (z_len eG301).trans hlen
      have hsl := (z_sl h80 eG301 rfl).trans hsl
      have hfr := hfr.wr h80 eG301 (by decide)
      have h80 := h80.kept eG301
      change ab_W _ _ _ (List.set G 80 (ab_ob 12 (mof m_thrown m_taped m_length m_out m_wide m_gathered m_sets m_ranges m_nodes (m_at + 1) m_flags m_fault m_place m_numbered m_depth m_value m_isNot m_least0 m_most0 m_slot m_work m_got m_rowMany m_charAt m_charWide m_trail m_isMatch m_matchGroups m_allFrom m_allBefore m_founds m_pieces m_writtenMany m_templateWide m_tooMuch))) 25 [some (vR 80), some (vz m_at), none, none, none] [] _
      rw [← eG301]
      refine ab_aload_n d_MO_readGroup_25 rfl ?_
      refine ab_iload_n d_MO_readGroup_26 rfl ?_
      refine zz_iconst d_MO_readGroup_27 ?_
      refine zz_iconst d_MO_readGroup_28 ?_
      refine ab_callV (d' := d - 1) (as := [vz m_at, vz (-1), vz 0]) (st := []) (r := _) (z_MO_openNumbered (o := o) (m_thrown := m_thrown) (m_taped := m_taped) (m_length := m_length) (m_out := m_out) (m_wide := m_wide) (m_gathered := m_gathered) (m_sets := m_sets) (m_ranges := m_ranges) (m_nodes := m_nodes) (m_at := (m_at + 1)) (m_flags := m_flags) (m_fault := m_fault) (m_place := m_place) (m_numbered := m_numbered) (m_depth := m_depth) (m_value := m_value) (m_isNot := m_isNot) (m_least0 := m_least0) (m_most0 := m_most0) (m_slot := m_slot) (m_work := m_work) (m_got := m_got) (m_rowMany := m_rowMany) (m_charAt := m_charAt) (m_charWide := m_charWide) (m_trail := m_trail) (m_isMatch := m_isMatch) (m_matchGroups := m_matchGroups) (m_allFrom := m_allFrom) (m_allBefore := m_allBefore) (m_founds := m_founds) (m_pieces := m_pieces) (m_writtenMany := m_writtenMany) (m_templateWide := m_templateWide) (m_tooMuch := m_tooMuch) (A_tape := A_tape) (LO := LO) (HI := HI) (MK := MK) (RL := RL) (RH := RH) (NS := NS) (NM := NM) (wh := m_at) (fr := (-1)) (n := 0) h80 h84 h87 h88 h93 h81 h82 h91 h92 h110 h111 ptrI_0 (by omega) (by omega) jtp jmk jrl jrh jns jnm (by omega) (by omega) (by omega) (by omega) (by omega) (by omega)) (fun oc G2 h => by rcases h with ⟨_, _, _, _, _, _, _, _, _, _, _, _, _, _, _, _, _, _, _, _, _, _, h, _⟩ | ⟨_, _, _, _, _, _, _, _, _, _, _, _, _, _, _, _, _, _, _, _, _, _, h, _⟩ <;> exact ⟨_, h⟩) (by omega) m_MO_openNumbered ml_MO_382 im_MO_openNumbered se_MO_openNumbered c_MO h80.2.2 (Nat.le_of_ble_eq_true rfl) d_MO_readGroup_29 rfl ?_
      intro v G302 hq
      rcases hq with ⟨a2303, v2304, nt2305, w2306, g2307, s2308, r2309, n2310, fl2311, nu2312, d2313, le2314, mo2315, f2316, p2317, LO2318, HI2319, MK2320, RL2321, RH2322, NS2323, NM2324, hv, hfk, hlk, hsk, hN80, hN87, hN88, hN93, hN91, hN92, hN110, hN111, pNtrI_0, hq325, hq326, hq327, hq328, hq329, hq330⟩ | ⟨a2331, v2332, nt2333, w2334, g2335, s2336, r2337, n2338, fl2339, nu2340, d2341, le2342, mo2343, f2344, p2345, LO2346, HI2347, MK2348, RL2349, RH2350, NS2351, NM2352, hv, hfk, hlk, hsk, hN80, hN87, hN88, hN93, hN91, hN92, hN110, hN111, pNtrI_0, hq353, hq354, hq355, hq356, hq357, hq358⟩
      · cases hv
        have h84 := hfk.get h84 (by decide)
        have h81 := hfk.get h81 (by decide)
        have h82 := hfk.get h82 (by decide)
        have ptrI_0 := pNtrI_0
        have hfr := hfr.tr hfk (by decide)
        have hlen := hlk.trans hlen
        have hsl := hsk.trans hsl
        have h80 := hN80
        have h87 := hN87
        have h88 := hN88
        have h93 := hN93
        have h91 := hN91
        have h92 := hN92
        have h110 := hN110
        have h111 := hN111
        change ab_W _ _ _ G302 32 [some (vR 80), some (vz m_at), none, none, none] [] _
        refine ab_vret rfl d_MO_readGroup_32 ?_
        rw [hQ]; exact (Or.inl ⟨_, _, _, _, _, _, _, _, _, _, _, _, _, _, _, _, _, _, _, _, _, _, rfl, hfr, hlen, hsl, h80, h87, h88, h93, h91, h92, h110, h111, ptrI_0, (by omega), (by first | exact hq326 | exact rgs_w hq326 (by omega)), (by first | exact hq327 | exact rgs_w hq327 (by omega)), (by first | exact hq328 | exact rgs_w hq328 (by omega)), (by first | exact hq329 | exact rgs_w hq329 (by omega)), (by first | exact hq330 | exact rgs_w hq330 (by omega))⟩)
      · cases hv
        have h84 := hfk.get h84 (by decide)
        have h81 := hfk.get h81 (by decide)
        have h82 := hfk.get h82 (by decide)
        have ptrI_0 := pNtrI_0
        have hfr := hfr.tr hfk (by decide)
        have hlen := hlk.trans hlen
        have hsl := hsk.trans hsl
        have h80 := hN80
        have h87 := hN87
        have h88 := hN88
        have h93 := hN93
        have h91 := hN91
        have h92 := hN92
        have h110 := hN110
        have h111 := hN111
        change ab_W _ _ _ G302 32 [some (vR 80), some (vz m_at), none, none, none] [] _
        refine ab_vret rfl d_MO_readGroup_32 ?_
        rw [hQ]; exact (Or.inr ⟨_, _, _, _, _, _, _, _, _, _, _, _, _, _, _, _, _, _, _, _, _, _, rfl, hfr, hlen, hsl, h80, h87, h88, h93, h91, h92, h110, h111, ptrI_0, (by omega), (by first | exact hq354 | exact rgs_w hq354 (by omega)), (by first | exact hq355 | exact rgs_w hq355 (by omega)), (by first | exact hq356 | exact rgs_w hq356 (by omega)), (by first | exact hq357 | exact rgs_w hq357 (by omega)), (by first | exact hq358 | exact rgs_w hq358 (by omega))⟩)
  · cases hv
    rw [hGe]
    change ab_W _ _ _ G 10 [some (vR 80), some (vz m_at), none, none, none] [vz (-1)] _
    refine zz_bipush d_MO_readGroup_10 (by decide) ?_
    refine zz_icmp_eq (tgt := 33) d_MO_readGroup_12 (by decide) (by decide) (by decide) (fun c359 => absurd c359 (by decide)) (fun c359 => ?_)
    refine ab_aload_n d_MO_readGroup_15 rfl ?_
    refine ab_dup d_MO_readGroup_16 rfl ?_
    refine ab_getf (fs := mof m_thrown m_taped m_length m_out m_wide m_gathered m_sets m_ranges m_nodes m_at m_flags m_fault m_place m_numbered m_depth m_value m_isNot m_least0 m_most0 m_slot m_work m_got m_rowMany m_charAt m_charWide m_trail m_isMatch m_matchGroups m_allFrom m_allBefore m_founds m_pieces m_writtenMany m_templateWide m_tooMuch) f_MO_279 d_MO_readGroup_17 h80.2.2 rfl ?_
    refine zz_iconst d_MO_readGroup_20 ?_
    refine zz_iadd d_MO_readGroup_21 ?_
    refine ab_putf (fs := mof m_thrown m_taped m_length m_out m_wide m_gathered m_sets m_ranges m_nodes m_at m_flags m_fault m_place m_numbered m_depth m_value m_isNot m_least0 m_most0 m_slot m_work m_got m_rowMany m_charAt m_charWide m_trail m_isMatch m_matchGroups m_allFrom m_allBefore m_founds m_pieces m_writtenMany m_templateWide m_tooMuch) f_MO_279 (Or.inl rfl) d_MO_readGroup_22 h80.2.2 (Nat.le_of_ble_eq_true rfl) (fun _ => ⟨rfl, rfl⟩) (h80.2.1 (by decide)) ?_
    obtain ⟨G360, eG360⟩ : ∃ z : ab_G, z = List.set G 80 (ab_ob 12 (mof m_thrown m_taped m_length m_out m_wide m_gathered m_sets m_ranges m_nodes (m_at + 1) m_flags m_fault m_place m_numbered m_depth m_value m_isNot m_least0 m_most0 m_slot m_work m_got m_rowMany m_charAt m_charWide m_trail m_isMatch m_matchGroups m_allFrom m_allBefore m_founds m_pieces m_writtenMany m_templateWide m_tooMuch)) := ⟨_, rfl⟩
    have h84 := h84.keep h80 eG360 (by decide)
    have h87 := h87.keep h80 eG360 (by decide)
    have h88 := h88.keep h80 eG360 (by decide)
    have h93 := h93.keep h80 eG360 (by decide)
    have h81 := h81.keep h80 eG360 (by decide)
    have h82 := h82.keep h80 eG360 (by decide)
    have h91 := h91.keep h80 eG360 (by decide)
    have h92 := h92.keep h80 eG360 (by decide)
    have h110 := h110.keep h80 eG360 (by decide)
    have h111 := h111.keep h80 eG360 (by decide)
    have hst := (fx.rf (o := o) (S := [280]) (G := G)).wr h80 eG360 (List.mem_singleton.mpr rfl)
    have ptrI_0 := trI.fr hst ptrI_0 (by decide) (by decide) (by decide) (by decide) (by decide) (by decide) (by decide) (by decide) (by decide) (by decide) (by decide) (by decide) (by decide) (by decide) (by decide) (by decide) (by decide) (by decide)
    have hlen := (z_len eG360).trans hlen
    have hsl := (z_sl h80 eG360 rfl).trans hsl
    have hfr := hfr.wr h80 eG360 (by decide)
    have h80 := h80.kept eG360
    change ab_W _ _ _ (List.set G 80 (ab_ob 12 (mof m_thrown m_taped m_length m_out m_wide m_gathered m_sets m_ranges m_nodes (m_at + 1) m_flags m_fault m_place m_numbered m_depth m_value m_isNot m_least0 m_most0 m_slot m_work m_got m_rowMany m_charAt m_charWide m_trail m_isMatch m_matchGroups m_allFrom m_allBefore m_founds m_pieces m_writtenMany m_templateWide m_tooMuch))) 25 [some (vR 80), some (vz m_at), none, none, none] [] _
    rw [← eG360]
    refine ab_aload_n d_MO_readGroup_25 rfl ?_
    refine ab_iload_n d_MO_readGroup_26 rfl ?_
    refine zz_iconst d_MO_readGroup_27 ?_
    refine zz_iconst d_MO_readGroup_28 ?_
    refine ab_callV (d' := d - 1) (as := [vz m_at, vz (-1), vz 0]) (st := []) (r := _) (z_MO_openNumbered (o := o) (m_thrown := m_thrown) (m_taped := m_taped) (m_length := m_length) (m_out := m_out) (m_wide := m_wide) (m_gathered := m_gathered) (m_sets := m_sets) (m_ranges := m_ranges) (m_nodes := m_nodes) (m_at := (m_at + 1)) (m_flags := m_flags) (m_fault := m_fault) (m_place := m_place) (m_numbered := m_numbered) (m_depth := m_depth) (m_value := m_value) (m_isNot := m_isNot) (m_least0 := m_least0) (m_most0 := m_most0) (m_slot := m_slot) (m_work := m_work) (m_got := m_got) (m_rowMany := m_rowMany) (m_charAt := m_charAt) (m_charWide := m_charWide) (m_trail := m_trail) (m_isMatch := m_isMatch) (m_matchGroups := m_matchGroups) (m_allFrom := m_allFrom) (m_allBefore := m_allBefore) (m_founds := m_founds) (m_pieces := m_pieces) (m_writtenMany := m_writtenMany) (m_templateWide := m_templateWide) (m_tooMuch := m_tooMuch) (A_tape := A_tape) (LO := LO) (HI := HI) (MK := MK) (RL := RL) (RH := RH) (NS := NS) (NM := NM) (wh := m_at) (fr := (-1)) (n := 0) h80 h84 h87 h88 h93 h81 h82 h91 h92 h110 h111 ptrI_0 (by omega) (by omega) jtp jmk jrl jrh jns jnm (by omega) (by omega) (by omega) (by omega) (by omega) (by omega)) (fun oc G2 h => by rcases h with ⟨_, _, _, _, _, _, _, _, _, _, _, _, _, _, _, _, _, _, _, _, _, _, h, _⟩ | ⟨_, _, _, _, _, _, _, _, _, _, _, _, _, _, _, _, _, _, _, _, _, _, h, _⟩ <;> exact ⟨_, h⟩) (by omega) m_MO_openNumbered ml_MO_382 im_MO_openNumbered se_MO_openNumbered c_MO h80.2.2 (Nat.le_of_ble_eq_true rfl) d_MO_readGroup_29 rfl ?_
    intro v G361 hq
    rcases hq with ⟨a2362, v2363, nt2364, w2365, g2366, s2367, r2368, n2369, fl2370, nu2371, d2372, le2373, mo2374, f2375, p2376, LO2377, HI2378, MK2379, RL2380, RH2381, NS2382, NM2383, hv, hfk, hlk, hsk, hN80, hN87, hN88, hN93, hN91, hN92, hN110, hN111, pNtrI_0, hq384, hq385, hq386, hq387, hq388, hq389⟩ | ⟨a2390, v2391, nt2392, w2393, g2394, s2395, r2396, n2397, fl2398, nu2399, d2400, le2401, mo2402, f2403, p2404, LO2405, HI2406, MK2407, RL2408, RH2409, NS2410, NM2411, hv, hfk, hlk, hsk, hN80, hN87, hN88, hN93, hN91, hN92, hN110, hN111, pNtrI_0, hq412, hq413, hq414, hq415, hq416, hq417⟩
    · cases hv
      have h84 := hfk.get h84 (by decide)
      have h81 := hfk.get h81 (by decide)
      have h82 := hfk.get h82 (by decide)
      have ptrI_0 := pNtrI_0
      have hfr := hfr.tr hfk (by decide)
      have hlen := hlk.trans hlen
      have hsl := hsk.trans hsl
      have h80 := hN80
      have h87 := hN87
      have h88 := hN88
      have h93 := hN93
      have h91 := hN91
      have h92 := hN92
      have h110 := hN110
      have h111 := hN111
      change ab_W _ _ _ G361 32 [some (vR 80), some (vz m_at), none, none, none] [] _
      refine ab_vret rfl d_MO_readGroup_32 ?_
      rw [hQ]; exact (Or.inl ⟨_, _, _, _, _, _, _, _, _, _, _, _, _, _, _, _, _, _, _, _, _, _, rfl, hfr, hlen, hsl, h80, h87, h88, h93, h91, h92, h110, h111, ptrI_0, (by omega), (by first | exact hq385 | exact rgs_w hq385 (by omega)), (by first | exact hq386 | exact rgs_w hq386 (by omega)), (by first | exact hq387 | exact rgs_w hq387 (by omega)), (by first | exact hq388 | exact rgs_w hq388 (by omega)), (by first | exact hq389 | exact rgs_w hq389 (by omega))⟩)
    · cases hv
      have h84 := hfk.get h84 (by decide)
      have h81 := hfk.get h81 (by decide)
      have h82 := hfk.get h82 (by decide)
      have ptrI_0 := pNtrI_0
      have hfr := hfr.tr hfk (by decide)
      have hlen := hlk.trans hlen
      have hsl := hsk.trans hsl
      have h80 := hN80
      have h87 := hN87
      have h88 := hN88
      have h93 := hN93
      have h91 := hN91
      have h92 := hN92
      have h110 := hN110
      have h111 := hN111
      change ab_W _ _ _ G361 32 [some (vR 80), some (vz m_at), none, none, none] [] _
      refine ab_vret rfl d_MO_readGroup_32 ?_
      rw [hQ]; exact (Or.inr ⟨_, _, _, _, _, _, _, _, _, _, _, _, _, _, _, _, _, _, _, _, _, _, rfl, hfr, hlen, hsl, h80, h87, h88, h93, h91, h92, h110, h111, ptrI_0, (by omega), (by first | exact hq413 | exact rgs_w hq413 (by omega)), (by first | exact hq414 | exact rgs_w hq414 (by omega)), (by first | exact hq415 | exact rgs_w hq415 (by omega)), (by first | exact hq416 | exact rgs_w hq416 (by omega)), (by first | exact hq417 | exact rgs_w hq417 (by omega))⟩)
