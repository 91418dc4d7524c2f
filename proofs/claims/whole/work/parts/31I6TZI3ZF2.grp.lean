set_option maxRecDepth 100000 in
set_option maxHeartbeats 4000000 in
theorem y_MO_openNumbered_66 {X : ab_X} {d : Nat} {Q : Outcome → ab_G → Prop} {o : Nat → Nat} {G0 : ab_G} {m_thrown : Int} {m_taped : Int} {m_length : Int} {m_out : Int} {m_wide : Int} {m_gathered : Int} {m_sets : Int} {m_ranges : Int} {m_nodes : Int} {m_at : Int} {m_flags : Int} {m_fault : Int} {m_place : Int} {m_numbered : Int} {m_depth : Int} {m_value : Int} {m_isNot : Int} {m_least0 : Int} {m_most0 : Int} {m_slot : Int} {m_work : Int} {m_got : Int} {m_rowMany : Int} {m_charAt : Int} {m_charWide : Int} {m_trail : Int} {m_isMatch : Int} {m_matchGroups : Int} {m_allFrom : Int} {m_allBefore : Int} {m_founds : Int} {m_pieces : Int} {m_writtenMany : Int} {m_templateWide : Int} {m_tooMuch : Int} {A_tape : Int → Int} {wh : Int} {fo : Int} {n : Int} {NS0 : Int → Int} (n18 : ab_n0 = 18) (cta : 0 ≤ m_taped ∧ m_taped ≤ 2000) (jtp : rgs A_tape 2000 0 255) (cfn : 0 ≤ n ∧ n ≤ 12 ∧ (n = 0 ∨ (0 ≤ fo ∧ fo + n ≤ m_taped)) ∧ -1 ≤ fo ∧ fo ≤ 2000) (cnu : 0 ≤ m_numbered ∧ m_numbered ≤ 9) (hd : 1 ≤ d) : ∀ (mz : Nat) {G : ab_G} {i_ : Int} {NS : Int → Int}, (cc o G 80 280 (ab_ob 12 (mof m_thrown m_taped m_length m_out m_wide m_gathered m_sets m_ranges m_nodes m_at m_flags m_fault m_place m_numbered m_depth m_value m_isNot m_least0 m_most0 m_slot m_work m_got m_rowMany m_charAt m_charWide m_trail m_isMatch m_matchGroups m_allFrom m_allBefore m_founds m_pieces m_writtenMany m_templateWide m_tooMuch))) → (cc o G 84 284 (za 2000 A_tape)) → (cc o G 110 310 (za 120 NS)) → (0 ≤ i_ ∧ i_ ≤ n) → (rgs NS 120 0 255) → (nsI NS0 NS A_tape m_numbered fo i_) → (fx o o [310] G0 G) → (G.length = G0.length) → (ab_slots G = ab_slots G0) → (Int.toNat (n - i_) < mz) → (∀ (G2 : ab_G) (NS2 : Int → Int), (cc o G2 110 310 (za 120 NS2)) → (rgs NS2 120 0 255) → (nsI NS0 NS2 A_tape m_numbered fo n) → (fx o o [310] G0 G2) → (G2.length = G0.length) → (ab_slots G2 = ab_slots G0) → ab_W X (ab_pl y_MO_openNumbered b_MO_openNumbered 5 none) d G2 102 [some (vR 80), some (vz wh), some (vz fo), some (vz n), none] [] Q) → ab_W X (ab_pl y_MO_openNumbered b_MO_openNumbered 5 none) d G 66 [some (vR 80), some (vz wh), some (vz fo), some (vz n), some (vz i_)] [] Q := by
  intro mz
  induction mz with
  | zero => intro G i_ NS h80 h84 h110 ci jns jni hfr hlen hsl hm hk0; exact absurd hm (Nat.not_lt_zero _)
  | succ mz ih =>
    intro G i_ NS h80 h84 h110 ci jns jni hfr hlen hsl hm hk0
    refine ab_iload d_MO_openNumbered_66 rfl ?_
    refine ab_iload_n d_MO_openNumbered_68 rfl ?_
    refine zz_icmp_ge (tgt := 102) d_MO_openNumbered_69 (by decide) (by omega) (by omega) (fun c1 => ?_) (fun c1 => ?_)
    · refine ab_less (L' := [some (vR 80), some (vz wh), some (vz fo), some (vz n), none]) (fun i v h => by rcases i with _ | _ | _ | _ | _ | i <;> first | exact h | (simp at h)) ?_
      exact hk0 _ _ h110 (by first | exact jns | exact rgs_w jns (by omega)) (by have t_ := jni; rw [show i_ = n by omega] at t_; exact t_) hfr hlen hsl
    · refine ab_aload_n d_MO_openNumbered_72 rfl ?_
      refine ab_getf (fs := mof m_thrown m_taped m_length m_out m_wide m_gathered m_sets m_ranges m_nodes m_at m_flags m_fault m_place m_numbered m_depth m_value m_isNot m_least0 m_most0 m_slot m_work m_got m_rowMany m_charAt m_charWide m_trail m_isMatch m_matchGroups m_allFrom m_allBefore m_founds m_pieces m_writtenMany m_templateWide m_tooMuch) f_MO_103 d_MO_openNumbered_73 h80.2.2 rfl ?_
      refine zz_bipush d_MO_openNumbered_76 (by decide) ?_
      refine ab_aload_n d_MO_openNumbered_78 rfl ?_
      refine ab_getf (fs := mof m_thrown m_taped m_length m_out m_wide m_gathered m_sets m_ranges m_nodes m_at m_flags m_fault m_place m_numbered m_depth m_value m_isNot m_least0 m_most0 m_slot m_work m_got m_rowMany m_charAt m_charWide m_trail m_isMatch m_matchGroups m_allFrom m_allBefore m_founds m_pieces m_writtenMany m_templateWide m_tooMuch) f_MO_395 d_MO_openNumbered_79 h80.2.2 rfl ?_
      refine zz_imul d_MO_openNumbered_82 ?_
      refine ab_iload d_MO_openNumbered_83 rfl ?_
      refine zz_iadd d_MO_openNumbered_85 ?_
      refine ab_aload_n d_MO_openNumbered_86 rfl ?_
      refine ab_getf (fs := mof m_thrown m_taped m_length m_out m_wide m_gathered m_sets m_ranges m_nodes m_at m_flags m_fault m_place m_numbered m_depth m_value m_isNot m_least0 m_most0 m_slot m_work m_got m_rowMany m_charAt m_charWide m_trail m_isMatch m_matchGroups m_allFrom m_allBefore m_founds m_pieces m_writtenMany m_templateWide m_tooMuch) f_MO_19 d_MO_openNumbered_87 h80.2.2 rfl ?_
      refine ab_iload_n d_MO_openNumbered_90 rfl ?_
      refine ab_iload d_MO_openNumbered_91 rfl ?_
      refine zz_iadd d_MO_openNumbered_93 ?_
      refine zz_iald d_MO_openNumbered_94 h84 (by omega) ?_
      have hq2 := jtp (fo + i_) (by omega) (by omega)
      refine zz_iast d_MO_openNumbered_95 h110 (by omega) (h110.2.1 (by decide)) ?_
      obtain ⟨G3, eG3⟩ : ∃ z : ab_G, z = List.set G 110 (za 120 (zu NS ((12 * m_numbered) + i_) (A_tape (fo + i_)))) := ⟨_, rfl⟩
      have h80 := h80.keep h110 eG3 (by decide)
      have h84 := h84.keep h110 eG3 (by decide)
      have hlen := (z_len eG3).trans hlen
      have hsl := (z_sl h110 eG3 rfl).trans hsl
      have hfr := hfr.wr h110 eG3 (by decide)
      have h110 := h110.kept eG3
      change ab_W _ _ _ (List.set G 110 (za 120 (zu NS ((12 * m_numbered) + i_) (A_tape (fo + i_))))) 96 [some (vR 80), some (vz wh), some (vz fo), some (vz n), some (vz i_)] [] _
      rw [← eG3]
      refine zz_iinc d_MO_openNumbered_96 rfl (Nat.le_of_ble_eq_true rfl) (Nat.le_of_ble_eq_true rfl) rfl ?_
      change ab_W _ _ _ G3 99 [some (vR 80), some (vz wh), some (vz fo), some (vz n), some (vz (i_ + 1))] [] _
      refine ab_goto (tgt := 66) d_MO_openNumbered_99 (by decide) ?_
      exact ih (i_ := (i_ + 1)) (NS := (zu NS ((12 * m_numbered) + i_) (A_tape (fo + i_)))) h80 h84 h110 (by omega) (rgs_zu jns (by omega)) (nsI_s jni (by omega) rfl) hfr hlen hsl (by omega) hk0
set_option maxRecDepth 100000 in
set_option maxHeartbeats 4000000 in
theorem z_MO_openNumbered {X : ab_X} {d : Nat} {o : Nat → Nat} {G : ab_G} {m_thrown : Int} {m_taped : Int} {m_length : Int} {m_out : Int} {m_wide : Int} {m_gathered : Int} {m_sets : Int} {m_ranges : Int} {m_nodes : Int} {m_at : Int} {m_flags : Int} {m_fault : Int} {m_place : Int} {m_numbered : Int} {m_depth : Int} {m_value : Int} {m_isNot : Int} {m_least0 : Int} {m_most0 : Int} {m_slot : Int} {m_work : Int} {m_got : Int} {m_rowMany : Int} {m_charAt : Int} {m_charWide : Int} {m_trail : Int} {m_isMatch : Int} {m_matchGroups : Int} {m_allFrom : Int} {m_allBefore : Int} {m_founds : Int} {m_pieces : Int} {m_writtenMany : Int} {m_templateWide : Int} {m_tooMuch : Int} {A_tape : Int → Int} {LO : Int → Int} {HI : Int → Int} {MK : Int → Int} {RL : Int → Int} {RH : Int → Int} {NS : Int → Int} {NM : Int → Int} {rp : Int} {ls : Int} {SV : Int → Int → Prop} {ro : Sn} {vv : Sn} {a1_ : Int} {b1_ : Int} {c1_ : Int} {d1_ : Int} {e1_ : Int} {t1_ : List Fr} {ao1_ : Option Sn} {ro1_ : Sn} {ts1_ : List Fs} {na : Int → Int} {nl : Int → Int} {wh : Int} {fo : Int} {n : Int} {ps9 : Int} (h80 : cc o G 80 280 (ab_ob 12 (mof m_thrown m_taped m_length m_out m_wide m_gathered m_sets m_ranges m_nodes m_at m_flags m_fault m_place m_numbered m_depth m_value m_isNot m_least0 m_most0 m_slot m_work m_got m_rowMany m_charAt m_charWide m_trail m_isMatch m_matchGroups m_allFrom m_allBefore m_founds m_pieces m_writtenMany m_templateWide m_tooMuch))) (h84 : cc o G 84 284 (za 2000 A_tape)) (h87 : cc o G 87 287 (za 9000 LO)) (h88 : cc o G 88 288 (za 9000 HI)) (h93 : cc o G 93 293 (zb 1200 MK)) (h81 : cc o G 81 281 (za 13 tbA)) (h82 : cc o G 82 282 (za 66 tbT)) (h91 : cc o G 91 291 (za 24000 RL)) (h92 : cc o G 92 292 (za 24000 RH)) (h110 : cc o G 110 310 (za 120 NS)) (h111 : cc o G 111 311 (za 10 NM)) (ptrI_0 : trI o G 0 m_nodes m_sets (m_depth + 1) (-1) 0 0 ((a1_, b1_, c1_, d1_, e1_) :: t1_) rp ls 0 SV ((ao1_, ro1_) :: ts1_) ro vv mnI RL RH m_ranges 0 0) (n18 : ab_n0 = 18) (cta : 0 ≤ m_taped ∧ m_taped ≤ 2000) (jtp : rgs A_tape 2000 0 255) (jmk : rgs MK 1200 0 1) (jrl : rgs RL 24000 0 1114111) (jrh : rgs RH 24000 0 1114111) (jns : rgs NS 120 0 255) (jnm : rgs NM 10 0 12) (cfl : 0 ≤ m_flags ∧ m_flags ≤ 15) (cf : m_fault = 0) (cat : 0 ≤ m_at ∧ m_at ≤ m_taped) (cpo : 0 ≤ m_nodes ∧ m_nodes + 2 * m_depth + 2 ≤ 2 * m_at ∧ 0 ≤ m_sets ∧ m_sets + 0 ≤ m_at ∧ 0 ≤ m_ranges ∧ m_ranges + 0 ≤ 12 * m_at ∧ 0 ≤ m_depth ∧ m_depth ≤ 30 ∧ 0 ≤ m_numbered ∧ m_numbered ≤ 9 ∧ -2147483648 ≤ m_flags ∧ m_flags ≤ 2147483647 ∧ -2147483648 ≤ m_value ∧ m_value ≤ 2147483647) (cwh : -1 ≤ wh ∧ wh ≤ 2010) (cfn : 0 ≤ n ∧ n ≤ 12 ∧ (n = 0 ∨ (0 ≤ fo ∧ fo + n ≤ m_taped)) ∧ -1 ≤ fo ∧ fo ≤ 2000) (jnj : nmJ NS NM A_tape na nl m_numbered) (hp9 : n = 0 ∨ ps9 = fo) (hd : 2 ≤ d) : ab_F X d y_MO_openNumbered (.code y_MO_openNumbered b_MO_openNumbered 5 none) [vR 80, vz wh, vz fo, vz n] G (fun oc G2 => (∃ NS2 : Int → Int, oc = .returned none ∧ fx o o [280, 310, 311, 294, 295, 296, 297, 298, 299, 300, 301, 290, 289, 305, 306, 307, 308, 309, 302, 303, 304] G G2 ∧ G2.length = G.length ∧ ab_slots G2 = ab_slots G ∧ cc o G2 80 280 (ab_ob 12 (mof m_thrown m_taped m_length m_out m_wide m_gathered m_sets m_ranges m_nodes m_at m_flags m_fault m_place (m_numbered + 1) (m_depth + 1) m_value m_isNot m_least0 m_most0 m_slot m_work m_got m_rowMany m_charAt m_charWide m_trail m_isMatch m_matchGroups m_allFrom m_allBefore m_founds m_pieces m_writtenMany m_templateWide m_tooMuch)) ∧ cc o G2 110 310 (za 120 NS2) ∧ cc o G2 111 311 (za 10 (zu NM (m_numbered + 1) n)) ∧ trI o G2 0 m_nodes m_sets ((m_depth + 1) + 1) (-1) 0 0 ((wh, m_flags, (m_numbered + 1), 0, 0) :: ((a1_, b1_, c1_, d1_, e1_) :: t1_)) 0 0 0 SV ((none, mnI) :: ((ao1_, ro1_) :: ts1_)) mnI mnI mnI RL RH m_ranges 0 0 ∧ (m_depth < 30 ∧ m_numbered < 9) ∧ (rgs NS2 120 0 255) ∧ (nmJ NS2 (zu NM (m_numbered + 1) n) A_tape (zu na (m_numbered + 1) ps9) (zu nl (m_numbered + 1) n) (m_numbered + 1))) ∨ (∃ f2 : Int, ∃ p2 : Int, oc = .returned none ∧ fx o o [280, 310, 311, 294, 295, 296, 297, 298, 299, 300, 301, 290, 289, 305, 306, 307, 308, 309, 302, 303, 304] G G2 ∧ G2.length = G.length ∧ ab_slots G2 = ab_slots G ∧ cc o G2 80 280 (ab_ob 12 (mof m_thrown m_taped m_length m_out m_wide m_gathered m_sets m_ranges m_nodes m_at m_flags f2 p2 m_numbered m_depth m_value m_isNot m_least0 m_most0 m_slot m_work m_got m_rowMany m_charAt m_charWide m_trail m_isMatch m_matchGroups m_allFrom m_allBefore m_founds m_pieces m_writtenMany m_templateWide m_tooMuch)) ∧ cc o G2 110 310 (za 120 NS) ∧ cc o G2 111 311 (za 10 NM) ∧ trI o G2 0 m_nodes m_sets (m_depth + 1) (-1) 0 0 ((a1_, b1_, c1_, d1_, e1_) :: t1_) rp ls 0 SV ((ao1_, ro1_) :: ts1_) ro vv mnI RL RH m_ranges 0 0 ∧ (1 ≤ f2 ∧ f2 ≤ 14) ∧ ((m_depth = 30 ∧ f2 = 12) ∨ (m_depth < 30 ∧ m_numbered = 9 ∧ f2 = 13)) ∧ (p2 = wh))) := by
  refine ab_F_of (by decide +kernel) (Nat.le_of_ble_eq_true rfl) ?_
  obtain ⟨Q, hQ⟩ : ∃ z : Outcome → ab_G → Prop, z = (fun oc G2 => (∃ NS2 : Int → Int, oc = .returned none ∧ fx o o [280, 310, 311, 294, 295, 296, 297, 298, 299, 300, 301, 290, 289, 305, 306, 307, 308, 309, 302, 303, 304] G G2 ∧ G2.length = G.length ∧ ab_slots G2 = ab_slots G ∧ cc o G2 80 280 (ab_ob 12 (mof m_thrown m_taped m_length m_out m_wide m_gathered m_sets m_ranges m_nodes m_at m_flags m_fault m_place (m_numbered + 1) (m_depth + 1) m_value m_isNot m_least0 m_most0 m_slot m_work m_got m_rowMany m_charAt m_charWide m_trail m_isMatch m_matchGroups m_allFrom m_allBefore m_founds m_pieces m_writtenMany m_templateWide m_tooMuch)) ∧ cc o G2 110 310 (za 120 NS2) ∧ cc o G2 111 311 (za 10 (zu NM (m_numbered + 1) n)) ∧ trI o G2 0 m_nodes m_sets ((m_depth + 1) + 1) (-1) 0 0 ((wh, m_flags, (m_numbered + 1), 0, 0) :: ((a1_, b1_, c1_, d1_, e1_) :: t1_)) 0 0 0 SV ((none, mnI) :: ((ao1_, ro1_) :: ts1_)) mnI mnI mnI RL RH m_ranges 0 0 ∧ (m_depth < 30 ∧ m_numbered < 9) ∧ (rgs NS2 120 0 255) ∧ (nmJ NS2 (zu NM (m_numbered + 1) n) A_tape (zu na (m_numbered + 1) ps9) (zu nl (m_numbered + 1) n) (m_numbered + 1))) ∨ (∃ f2 : Int, ∃ p2 : Int, oc = .returned none ∧ fx o o [280, 310, 311, 294, 295, 296, 297, 298, 299, 300, 301, 290, 289, 305, 306, 307, 308, 309, 302, 303, 304] G G2 ∧ G2.length = G.length ∧ ab_slots G2 = ab_slots G ∧ cc o G2 80 280 (ab_ob 12 (mof m_thrown m_taped m_length m_out m_wide m_gathered m_sets m_ranges m_nodes m_at m_flags f2 p2 m_numbered m_depth m_value m_isNot m_least0 m_most0 m_slot m_work m_got m_rowMany m_charAt m_charWide m_trail m_isMatch m_matchGroups m_allFrom m_allBefore m_founds m_pieces m_writtenMany m_templateWide m_tooMuch)) ∧ cc o G2 110 310 (za 120 NS) ∧ cc o G2 111 311 (za 10 NM) ∧ trI o G2 0 m_nodes m_sets (m_depth + 1) (-1) 0 0 ((a1_, b1_, c1_, d1_, e1_) :: t1_) rp ls 0 SV ((ao1_, ro1_) :: ts1_) ro vv mnI RL RH m_ranges 0 0 ∧ (1 ≤ f2 ∧ f2 ≤ 14) ∧ ((m_depth = 30 ∧ f2 = 12) ∨ (m_depth < 30 ∧ m_numbered = 9 ∧ f2 = 13)) ∧ (p2 = wh))) := ⟨_, rfl⟩
  rw [← hQ]
  change ab_W X (ab_pl y_MO_openNumbered b_MO_openNumbered 5 none) d G 0 [some (vR 80), some (vz wh), some (vz fo), some (vz n), none] [] Q
  have hfr : fx o o [280, 310, 311, 294, 295, 296, 297, 298, 299, 300, 301, 290, 289, 305, 306, 307, 308, 309, 302, 303, 304] G G := fx.rf
  have hlen : G.length = G.length := rfl
  have hsl : ab_slots G = ab_slots G := rfl
  refine ab_aload_n d_MO_openNumbered_0 rfl ?_
  refine ab_getf (fs := mof m_thrown m_taped m_length m_out m_wide m_gathered m_sets m_ranges m_nodes m_at m_flags m_fault m_place m_numbered m_depth m_value m_isNot m_least0 m_most0 m_slot m_work m_got m_rowMany m_charAt m_charWide m_trail m_isMatch m_matchGroups m_allFrom m_allBefore m_founds m_pieces m_writtenMany m_templateWide m_tooMuch) f_MO_282 d_MO_openNumbered_1 h80.2.2 rfl ?_
  refine zz_bipush d_MO_openNumbered_4 (by decide) ?_
  refine zz_icmp_ne (tgt := 19) d_MO_openNumbered_6 (by decide) (by omega) (by decide) (fun c1 => ?_) (fun c1 => ?_)
  · refine ab_aload_n d_MO_openNumbered_19 rfl ?_
    refine ab_getf (fs := mof m_thrown m_taped m_length m_out m_wide m_gathered m_sets m_ranges m_nodes m_at m_flags m_fault m_place m_numbered m_depth m_value m_isNot m_least0 m_most0 m_slot m_work m_got m_rowMany m_charAt m_charWide m_trail m_isMatch m_matchGroups m_allFrom m_allBefore m_founds m_pieces m_writtenMany m_templateWide m_tooMuch) f_MO_395 d_MO_openNumbered_20 h80.2.2 rfl ?_
    refine zz_bipush d_MO_openNumbered_23 (by decide) ?_
    refine zz_icmp_ne (tgt := 35) d_MO_openNumbered_25 (by decide) (by omega) (by decide) (fun c2 => ?_) (fun c2 => ?_)
    · refine ab_aload_n d_MO_openNumbered_35 rfl ?_
      refine ab_getf (fs := mof m_thrown m_taped m_length m_out m_wide m_gathered m_sets m_ranges m_nodes m_at m_flags m_fault m_place m_numbered m_depth m_value m_isNot m_least0 m_most0 m_slot m_work m_got m_rowMany m_charAt m_charWide m_trail m_isMatch m_matchGroups m_allFrom m_allBefore m_founds m_pieces m_writtenMany m_templateWide m_tooMuch) f_MO_273 d_MO_openNumbered_36 h80.2.2 rfl ?_
      refine zz_if_le (tgt := 43) d_MO_openNumbered_39 (by decide) (by omega) (fun c3 => ?_) (fun c3 => absurd c3 (by omega))
      refine ab_aload_n d_MO_openNumbered_43 rfl ?_
      refine ab_dup d_MO_openNumbered_44 rfl ?_
      refine ab_getf (fs := mof m_thrown m_taped m_length m_out m_wide m_gathered m_sets m_ranges m_nodes m_at m_flags m_fault m_place m_numbered m_depth m_value m_isNot m_least0 m_most0 m_slot m_work m_got m_rowMany m_charAt m_charWide m_trail m_isMatch m_matchGroups m_allFrom m_allBefore m_founds m_pieces m_writtenMany m_templateWide m_tooMuch) f_MO_395 d_MO_openNumbered_45 h80.2.2 rfl ?_
      refine zz_iconst d_MO_openNumbered_48 ?_
      refine zz_iadd d_MO_openNumbered_49 ?_
      refine ab_putf (fs := mof m_thrown m_taped m_length m_out m_wide m_gathered m_sets m_ranges m_nodes m_at m_flags m_fault m_place m_numbered m_depth m_value m_isNot m_least0 m_most0 m_slot m_work m_got m_rowMany m_charAt m_charWide m_trail m_isMatch m_matchGroups m_allFrom m_allBefore m_founds m_pieces m_writtenMany m_templateWide m_tooMuch) f_MO_395 (Or.inl rfl) d_MO_openNumbered_50 h80.2.2 (Nat.le_of_ble_eq_true rfl) (fun _ => ⟨rfl, rfl⟩) (h80.2.1 (by decide)) ?_
      obtain ⟨G4, eG4⟩ : ∃ z : ab_G, z = List.set G 80 (ab_ob 12 (mof m_thrown m_taped m_length m_out m_wide m_gathered m_sets m_ranges m_nodes m_at m_flags m_fault m_place (m_numbered + 1) m_depth m_value m_isNot m_least0 m_most0 m_slot m_work m_got m_rowMany m_charAt m_charWide m_trail m_isMatch m_matchGroups m_allFrom m_allBefore m_founds m_pieces m_writtenMany m_templateWide m_tooMuch)) := ⟨_, rfl⟩
      have h84 := h84.keep h80 eG4 (by decide)
      have h87 := h87.keep h80 eG4 (by decide)
      have h88 := h88.keep h80 eG4 (by decide)
      have h93 := h93.keep h80 eG4 (by decide)
      have h81 := h81.keep h80 eG4 (by decide)
      have h82 := h82.keep h80 eG4 (by decide)
      have h91 := h91.keep h80 eG4 (by decide)
      have h92 := h92.keep h80 eG4 (by decide)
      have h110 := h110.keep h80 eG4 (by decide)
      have h111 := h111.keep h80 eG4 (by decide)
      have hst := (fx.rf (o := o) (S := [280]) (G := G)).wr h80 eG4 (List.mem_singleton.mpr rfl)
      have ptrI_0 := trI.fr hst ptrI_0 (by decide) (by decide) (by decide) (by decide) (by decide) (by decide) (by decide) (by decide) (by decide) (by decide) (by decide) (by decide) (by decide) (by decide) (by decide) (by decide) (by decide) (by decide)
      have hlen := (z_len eG4).trans hlen
      have hsl := (z_sl h80 eG4 rfl).trans hsl
      have hfr := hfr.wr h80 eG4 (by decide)
      have h80 := h80.kept eG4
      change ab_W _ _ _ (List.set G 80 (ab_ob 12 (mof m_thrown m_taped m_length m_out m_wide m_gathered m_sets m_ranges m_nodes m_at m_flags m_fault m_place (m_numbered + 1) m_depth m_value m_isNot m_least0 m_most0 m_slot m_work m_got m_rowMany m_charAt m_charWide m_trail m_isMatch m_matchGroups m_allFrom m_allBefore m_founds m_pieces m_writtenMany m_templateWide m_tooMuch))) 53 [some (vR 80), some (vz wh), some (vz fo), some (vz n), none] [] _
      rw [← eG4]
      refine ab_aload_n d_MO_openNumbered_53 rfl ?_
      refine ab_getf (fs := mof m_thrown m_taped m_length m_out m_wide m_gathered m_sets m_ranges m_nodes m_at m_flags m_fault m_place (m_numbered + 1) m_depth m_value m_isNot m_least0 m_most0 m_slot m_work m_got m_rowMany m_charAt m_charWide m_trail m_isMatch m_matchGroups m_allFrom m_allBefore m_founds m_pieces m_writtenMany m_templateWide m_tooMuch) f_MO_106 d_MO_openNumbered_54 h80.2.2 rfl ?_
      refine ab_aload_n d_MO_openNumbered_57 rfl ?_
      refine ab_getf (fs := mof m_thrown m_taped m_length m_out m_wide m_gathered m_sets m_ranges m_nodes m_at m_flags m_fault m_place (m_numbered + 1) m_depth m_value m_isNot m_least0 m_most0 m_slot m_work m_got m_rowMany m_charAt m_charWide m_trail m_isMatch m_matchGroups m_allFrom m_allBefore m_founds m_pieces m_writtenMany m_templateWide m_tooMuch) f_MO_395 d_MO_openNumbered_58 h80.2.2 rfl ?_
      refine ab_iload_n d_MO_openNumbered_61 rfl ?_
      refine zz_iast d_MO_openNumbered_62 h111 (by omega) (h111.2.1 (by decide)) ?_
      obtain ⟨G5, eG5⟩ : ∃ z : ab_G, z = List.set G4 111 (za 10 (zu NM (m_numbered + 1) n)) := ⟨_, rfl⟩
      have h80 := h80.keep h111 eG5 (by decide)
      have h84 := h84.keep h111 eG5 (by decide)
      have h87 := h87.keep h111 eG5 (by decide)
      have h88 := h88.keep h111 eG5 (by decide)
      have h93 := h93.keep h111 eG5 (by decide)
      have h81 := h81.keep h111 eG5 (by decide)
      have h82 := h82.keep h111 eG5 (by decide)
      have h91 := h91.keep h111 eG5 (by decide)
      have h92 := h92.keep h111 eG5 (by decide)
      have h110 := h110.keep h111 eG5 (by decide)
      have hst := (fx.rf (o := o) (S := [311]) (G := G4)).wr h111 eG5 (List.mem_singleton.mpr rfl)
      have ptrI_0 := trI.fr hst ptrI_0 (by decide) (by decide) (by decide) (by decide) (by decide) (by decide) (by decide) (by decide) (by decide) (by decide) (by decide) (by decide) (by decide) (by decide) (by decide) (by decide) (by decide) (by decide)
      have hlen := (z_len eG5).trans hlen
      have hsl := (z_sl h111 eG5 rfl).trans hsl
      have hfr := hfr.wr h111 eG5 (by decide)
      have h111 := h111.kept eG5
      change ab_W _ _ _ (List.set G4 111 (za 10 (zu NM (m_numbered + 1) n))) 63 [some (vR 80), some (vz wh), some (vz fo), some (vz n), none] [] _
      rw [← eG5]
      refine zz_iconst d_MO_openNumbered_63 ?_
      refine ab_istore d_MO_openNumbered_64 (Nat.le_of_ble_eq_true rfl) (Nat.le_of_ble_eq_true rfl) rfl ?_
      change ab_W _ _ _ G5 66 [some (vR 80), some (vz wh), some (vz fo), some (vz n), some (vz 0)] [] _
      refine y_MO_openNumbered_66 (m_thrown := m_thrown) (m_taped := m_taped) (m_length := m_length) (m_out := m_out) (m_wide := m_wide) (m_gathered := m_gathered) (m_sets := m_sets) (m_ranges := m_ranges) (m_nodes := m_nodes) (m_at := m_at) (m_flags := m_flags) (m_fault := m_fault) (m_place := m_place) (m_numbered := (m_numbered + 1)) (m_depth := m_depth) (m_value := m_value) (m_isNot := m_isNot) (m_least0 := m_least0) (m_most0 := m_most0) (m_slot := m_slot) (m_work := m_work) (m_got := m_got) (m_rowMany := m_rowMany) (m_charAt := m_charAt) (m_charWide := m_charWide) (m_trail := m_trail) (m_isMatch := m_isMatch) (m_matchGroups := m_matchGroups) (m_allFrom := m_allFrom) (m_allBefore := m_allBefore) (m_founds := m_founds) (m_pieces := m_pieces) (m_writtenMany := m_writtenMany) (m_templateWide := m_templateWide) (m_tooMuch := m_tooMuch) (A_tape := A_tape) (wh := wh) (fo := fo) (n := n) (NS0 := NS) (G0 := G5) (i_ := 0) (NS := NS) (by omega) (by omega) jtp (by omega) (by omega) (by omega) (Int.toNat (n - 0) + 1) h80 h84 h110 (by omega) jns nsI_0 fx.rf rfl rfl (by omega) (fun G6 NS27 hN110 hq8 hq9 hfk hlk hsk => ?_)
      · have h80 := hfk.get h80 (by decide)
        have h84 := hfk.get h84 (by decide)
        have h87 := hfk.get h87 (by decide)
        have h88 := hfk.get h88 (by decide)
        have h93 := hfk.get h93 (by decide)
        have h81 := hfk.get h81 (by decide)
        have h82 := hfk.get h82 (by decide)
        have h91 := hfk.get h91 (by decide)
        have h92 := hfk.get h92 (by decide)
        have h111 := hfk.get h111 (by decide)
        have ptrI_0 := trI.fr hfk ptrI_0 (by decide) (by decide) (by decide) (by decide) (by decide) (by decide) (by decide) (by decide) (by decide) (by decide) (by decide) (by decide) (by decide) (by decide) (by decide) (by decide) (by decide) (by decide)
        have hfr := hfr.tr hfk (by decide)
        have hlen := hlk.trans hlen
        have hsl := hsk.trans hsl
        have h110 := hN110
        change ab_W _ _ _ G6 102 [some (vR 80), some (vz wh), some (vz fo), some (vz n), none] [] _
        refine ab_aload_n d_MO_openNumbered_102 rfl ?_
        refine ab_dup d_MO_openNumbered_103 rfl ?_
        refine ab_getf (fs := mof m_thrown m_taped m_length m_out m_wide m_gathered m_sets m_ranges m_nodes m_at m_flags m_fault m_place (m_numbered + 1) m_depth m_value m_isNot m_least0 m_most0 m_slot m_work m_got m_rowMany m_charAt m_charWide m_trail m_isMatch m_matchGroups m_allFrom m_allBefore m_founds m_pieces m_writtenMany m_templateWide m_tooMuch) f_MO_282 d_MO_openNumbered_104 h80.2.2 rfl ?_
        refine zz_iconst d_MO_openNumbered_107 ?_
        refine zz_iadd d_MO_openNumbered_108 ?_
        refine ab_putf (fs := mof m_thrown m_taped m_length m_out m_wide m_gathered m_sets m_ranges m_nodes m_at m_flags m_fault m_place (m_numbered + 1) m_depth m_value m_isNot m_least0 m_most0 m_slot m_work m_got m_rowMany m_charAt m_charWide m_trail m_isMatch m_matchGroups m_allFrom m_allBefore m_founds m_pieces m_writtenMany m_templateWide m_tooMuch) f_MO_282 (Or.inl rfl) d_MO_openNumbered_109 h80.2.2 (Nat.le_of_ble_eq_true rfl) (fun _ => ⟨rfl, rfl⟩) (h80.2.1 (by decide)) ?_
        obtain ⟨G10, eG10⟩ : ∃ z : ab_G, z = List.set G6 80 (ab_ob 12 (mof m_thrown m_taped m_length m_out m_wide m_gathered m_sets m_ranges m_nodes m_at m_flags m_fault m_place (m_numbered + 1) (m_depth + 1) m_value m_isNot m_least0 m_most0 m_slot m_work m_got m_rowMany m_charAt m_charWide m_trail m_isMatch m_matchGroups m_allFrom m_allBefore m_founds m_pieces m_writtenMany m_templateWide m_tooMuch)) := ⟨_, rfl⟩
        have h84 := h84.keep h80 eG10 (by decide)
        have h87 := h87.keep h80 eG10 (by decide)
        have h88 := h88.keep h80 eG10 (by decide)
        have h93 := h93.keep h80 eG10 (by decide)
        have h81 := h81.keep h80 eG10 (by decide)
        have h82 := h82.keep h80 eG10 (by decide)
        have h91 := h91.keep h80 eG10 (by decide)
        have h92 := h92.keep h80 eG10 (by decide)
        have h110 := h110.keep h80 eG10 (by decide)
        have h111 := h111.keep h80 eG10 (by decide)
        have hst := (fx.rf (o := o) (S := [280]) (G := G6)).wr h80 eG10 (List.mem_singleton.mpr rfl)
        have ptrI_0 := trI.fr hst ptrI_0 (by decide) (by decide) (by decide) (by decide) (by decide) (by decide) (by decide) (by decide) (by decide) (by decide) (by decide) (by decide) (by decide) (by decide) (by decide) (by decide) (by decide) (by decide)
        have hlen := (z_len eG10).trans hlen
        have hsl := (z_sl h80 eG10 rfl).trans hsl
        have hfr := hfr.wr h80 eG10 (by decide)
        have h80 := h80.kept eG10
        change ab_W _ _ _ (List.set G6 80 (ab_ob 12 (mof m_thrown m_taped m_length m_out m_wide m_gathered m_sets m_ranges m_nodes m_at m_flags m_fault m_place (m_numbered + 1) (m_depth + 1) m_value m_isNot m_least0 m_most0 m_slot m_work m_got m_rowMany m_charAt m_charWide m_trail m_isMatch m_matchGroups m_allFrom m_allBefore m_founds m_pieces m_writtenMany m_templateWide m_tooMuch))) 112 [some (vR 80), some (vz wh), some (vz fo), some (vz n), none] [] _
        rw [← eG10]
        refine ab_aload_n d_MO_openNumbered_112 rfl ?_
        refine ab_iload_n d_MO_openNumbered_113 rfl ?_
        refine ab_aload_n d_MO_openNumbered_114 rfl ?_
        refine ab_getf (fs := mof m_thrown m_taped m_length m_out m_wide m_gathered m_sets m_ranges m_nodes m_at m_flags m_fault m_place (m_numbered + 1) (m_depth + 1) m_value m_isNot m_least0 m_most0 m_slot m_work m_got m_rowMany m_charAt m_charWide m_trail m_isMatch m_matchGroups m_allFrom m_allBefore m_founds m_pieces m_writtenMany m_templateWide m_tooMuch) f_MO_276 d_MO_openNumbered_115 h80.2.2 rfl ?_
        refine ab_aload_n d_MO_openNumbered_118 rfl ?_
        refine ab_getf (fs := mof m_thrown m_taped m_length m_out m_wide m_gathered m_sets m_ranges m_nodes m_at m_flags m_fault m_place (m_numbered + 1) (m_depth + 1) m_value m_isNot m_least0 m_most0 m_slot m_work m_got m_rowMany m_charAt m_charWide m_trail m_isMatch m_matchGroups m_allFrom m_allBefore m_founds m_pieces m_writtenMany m_templateWide m_tooMuch) f_MO_395 d_MO_openNumbered_119 h80.2.2 rfl ?_
        refine ab_callV (d' := d - 1) (as := [vz wh, vz m_flags, vz (m_numbered + 1)]) (st := []) (r := _) (z_MO_openGroup (o := o) (m_thrown := m_thrown) (m_taped := m_taped) (m_length := m_length) (m_out := m_out) (m_wide := m_wide) (m_gathered := m_gathered) (m_sets := m_sets) (m_ranges := m_ranges) (m_nodes := m_nodes) (m_at := m_at) (m_flags := m_flags) (m_fault := m_fault) (m_place := m_place) (m_numbered := (m_numbered + 1)) (m_depth := (m_depth + 1)) (m_value := m_value) (m_isNot := m_isNot) (m_least0 := m_least0) (m_most0 := m_most0) (m_slot := m_slot) (m_work := m_work) (m_got := m_got) (m_rowMany := m_rowMany) (m_charAt := m_charAt) (m_charWide := m_charWide) (m_trail := m_trail) (m_isMatch := m_isMatch) (m_matchGroups := m_matchGroups) (m_allFrom := m_allFrom) (m_allBefore := m_allBefore) (m_founds := m_founds) (m_pieces := m_pieces) (m_writtenMany := m_writtenMany) (m_templateWide := m_templateWide) (m_tooMuch := m_tooMuch) (x := wh) (y := m_flags) (w := (m_numbered + 1)) (dn := (-1)) (dh := 0) (re_ := 0) (fr := ((a1_, b1_, c1_, d1_, e1_) :: t1_)) (rp := rp) (ls := ls) (dz := 0) (SV := SV) (FS := ((ao1_, ro1_) :: ts1_)) (ro := ro) (vv := vv) (dv := mnI) (b2_ := m_flags) (nu9 := 0) (fo9 := 0) (RL := RL) (RH := RH) h80 ptrI_0 (by omega) (by omega) (by omega) (Or.inr rfl) (by omega)) (fun oc G2 h => by rcases h with ⟨h, _⟩ <;> exact ⟨_, h⟩) (by omega) m_MO_openGroup ml_MO_392 im_MO_openGroup se_MO_openGroup c_MO h80.2.2 (Nat.le_of_ble_eq_true rfl) d_MO_openNumbered_122 rfl ?_
        intro v G11 hq
        rcases hq with ⟨hv, hfk, hlk, hsk, pNtrI_0⟩
        cases hv
        have h80 := hfk.get h80 (by decide)
        have h84 := hfk.get h84 (by decide)
        have h87 := hfk.get h87 (by decide)
        have h88 := hfk.get h88 (by decide)
        have h93 := hfk.get h93 (by decide)
        have h81 := hfk.get h81 (by decide)
        have h82 := hfk.get h82 (by decide)
        have h91 := hfk.get h91 (by decide)
        have h92 := hfk.get h92 (by decide)
        have h110 := hfk.get h110 (by decide)
        have h111 := hfk.get h111 (by decide)
        have ptrI_0 := pNtrI_0
        have hfr := hfr.tr hfk (by decide)
        have hlen := hlk.trans hlen
        have hsl := hsk.trans hsl
        change ab_W _ _ _ G11 125 [some (vR 80), some (vz wh), some (vz fo), some (vz n), none] [] _
        refine ab_vret rfl d_MO_openNumbered_125 ?_
        rw [hQ]; exact (Or.inl ⟨_, rfl, hfr, hlen, hsl, h80, h110, h111, ptrI_0, (by omega), (by first | exact hq8 | exact rgs_w hq8 (by omega)), (by exact nmJ_s jnj (by omega) (fun k k1 k2 => (jnm k (by omega) (by omega)).2) hq9 hp9)⟩)
    · refine ab_aload_n d_MO_openNumbered_28 rfl ?_
      refine zz_bipush d_MO_openNumbered_29 (by decide) ?_
      refine ab_iload_n d_MO_openNumbered_31 rfl ?_
      refine ab_callV (d' := d - 1) (as := [vz 13, vz wh]) (st := []) (r := _) (z_MO_wrong (o := o) (m_thrown := m_thrown) (m_taped := m_taped) (m_length := m_length) (m_out := m_out) (m_wide := m_wide) (m_gathered := m_gathered) (m_sets := m_sets) (m_ranges := m_ranges) (m_nodes := m_nodes) (m_at := m_at) (m_flags := m_flags) (m_fault := m_fault) (m_place := m_place) (m_numbered := m_numbered) (m_depth := m_depth) (m_value := m_value) (m_isNot := m_isNot) (m_least0 := m_least0) (m_most0 := m_most0) (m_slot := m_slot) (m_work := m_work) (m_got := m_got) (m_rowMany := m_rowMany) (m_charAt := m_charAt) (m_charWide := m_charWide) (m_trail := m_trail) (m_isMatch := m_isMatch) (m_matchGroups := m_matchGroups) (m_allFrom := m_allFrom) (m_allBefore := m_allBefore) (m_founds := m_founds) (m_pieces := m_pieces) (m_writtenMany := m_writtenMany) (m_templateWide := m_templateWide) (m_tooMuch := m_tooMuch) (x := 13) (y := wh) h80 (by omega) (by omega)) (fun oc G2 h => by rcases h with ⟨h, _⟩ | ⟨h, _⟩ <;> exact ⟨_, h⟩) (by omega) m_MO_wrong ml_MO_304 im_MO_wrong se_MO_wrong c_MO h80.2.2 (Nat.le_of_ble_eq_true rfl) d_MO_openNumbered_32 rfl ?_
      intro v G12 hq
      rcases hq with ⟨hv, hfk, hlk, hsk, hN80, hq13⟩ | ⟨hv, hGe, hq14⟩
      · cases hv
        have h84 := hfk.get h84 (by decide)
        have h87 := hfk.get h87 (by decide)
        have h88 := hfk.get h88 (by decide)
        have h93 := hfk.get h93 (by decide)
        have h81 := hfk.get h81 (by decide)
        have h82 := hfk.get h82 (by decide)
        have h91 := hfk.get h91 (by decide)
        have h92 := hfk.get h92 (by decide)
        have h110 := hfk.get h110 (by decide)
        have h111 := hfk.get h111 (by decide)
        have ptrI_0 := trI.fr hfk ptrI_0 (by decide) (by decide) (by decide) (by decide) (by decide) (by decide) (by decide) (by decide) (by decide) (by decide) (by decide) (by decide) (by decide) (by decide) (by decide) (by decide) (by decide) (by decide)
        have hfr := hfr.tr hfk (by decide)
        have hlen := hlk.trans hlen
        have hsl := hsk.trans hsl
        have h80 := hN80
        change ab_W _ _ _ G12 35 [some (vR 80), some (vz wh), some (vz fo), some (vz n), none] [] _
        refine ab_aload_n d_MO_openNumbered_35 rfl ?_
        refine ab_getf (fs := mof m_thrown m_taped m_length m_out m_wide m_gathered m_sets m_ranges m_nodes m_at m_flags 13 wh m_numbered m_depth m_value m_isNot m_least0 m_most0 m_slot m_work m_got m_rowMany m_charAt m_charWide m_trail m_isMatch m_matchGroups m_allFrom m_allBefore m_founds m_pieces m_writtenMany m_templateWide m_tooMuch) f_MO_273 d_MO_openNumbered_36 h80.2.2 rfl ?_
        refine zz_if_le (tgt := 43) d_MO_openNumbered_39 (by decide) (by decide) (fun c15 => absurd c15 (by decide)) (fun c15 => ?_)
        refine ab_vret rfl d_MO_openNumbered_42 ?_
        rw [hQ]; exact (Or.inr ⟨_, _, rfl, hfr, hlen, hsl, h80, h110, h111, ptrI_0, (by omega), (by omega), (by omega)⟩)
      · cases hv
        rw [hGe]
        change ab_W _ _ _ G 35 [some (vR 80), some (vz wh), some (vz fo), some (vz n), none] [] _
        exfalso; omega
  · refine ab_aload_n d_MO_openNumbered_9 rfl ?_
    refine zz_bipush d_MO_openNumbered_10 (by decide) ?_
    refine ab_iload_n d_MO_openNumbered_12 rfl ?_
    refine ab_callV (d' := d - 1) (as := [vz 12, vz wh]) (st := []) (r := _) (z_MO_wrong (o := o) (m_thrown := m_thrown) (m_taped := m_taped) (m_length := m_length) (m_out := m_out) (m_wide := m_wide) (m_gathered := m_gathered) (m_sets := m_sets) (m_ranges := m_ranges) (m_nodes := m_nodes) (m_at := m_at) (m_flags := m_flags) (m_fault := m_fault) (m_place := m_place) (m_numbered := m_numbered) (m_depth := m_depth) (m_value := m_value) (m_isNot := m_isNot) (m_least0 := m_least0) (m_most0 := m_most0) (m_slot := m_slot) (m_work := m_work) (m_got := m_got) (m_rowMany := m_rowMany) (m_charAt := m_charAt) (m_charWide := m_charWide) (m_trail := m_trail) (m_isMatch := m_isMatch) (m_matchGroups := m_matchGroups) (m_allFrom := m_allFrom) (m_allBefore := m_allBefore) (m_founds := m_founds) (m_pieces := m_pieces) (m_writtenMany := m_writtenMany) (m_templateWide := m_templateWide) (m_tooMuch := m_tooMuch) (x := 12) (y := wh) h80 (by omega) (by omega)) (fun oc G2 h => by rcases h with ⟨h, _⟩ | ⟨h, _⟩ <;> exact ⟨_, h⟩) (by omega) m_MO_wrong ml_MO_304 im_MO_wrong se_MO_wrong c_MO h80.2.2 (Nat.le_of_ble_eq_true rfl) d_MO_openNumbered_13 rfl ?_
    intro v G16 hq
    rcases hq with ⟨hv, hfk, hlk, hsk, hN80, hq17⟩ | ⟨hv, hGe, hq18⟩
    · cases hv
      have h84 := hfk.get h84 (by decide)
      have h87 := hfk.get h87 (by decide)
      have h88 := hfk.get h88 (by decide)
      have h93 := hfk.get h93 (by decide)
      have h81 := hfk.get h81 (by decide)
      have h82 := hfk.get h82 (by decide)
      have h91 := hfk.get h91 (by decide)
      have h92 := hfk.get h92 (by decide)
      have h110 := hfk.get h110 (by decide)
      have h111 := hfk.get h111 (by decide)
      have ptrI_0 := trI.fr hfk ptrI_0 (by decide) (by decide) (by decide) (by decide) (by decide) (by decide) (by decide) (by decide) (by decide) (by decide) (by decide) (by decide) (by decide) (by decide) (by decide) (by decide) (by decide) (by decide)
      have hfr := hfr.tr hfk (by decide)
      have hlen := hlk.trans hlen
      have hsl := hsk.trans hsl
      have h80 := hN80
      change ab_W _ _ _ G16 16 [some (vR 80), some (vz wh), some (vz fo), some (vz n), none] [] _
      refine ab_goto (tgt := 35) d_MO_openNumbered_16 (by decide) ?_
      refine ab_aload_n d_MO_openNumbered_35 rfl ?_
      refine ab_getf (fs := mof m_thrown m_taped m_length m_out m_wide m_gathered m_sets m_ranges m_nodes m_at m_flags 12 wh m_numbered m_depth m_value m_isNot m_least0 m_most0 m_slot m_work m_got m_rowMany m_charAt m_charWide m_trail m_isMatch m_matchGroups m_allFrom m_allBefore m_founds m_pieces m_writtenMany m_templateWide m_tooMuch) f_MO_273 d_MO_openNumbered_36 h80.2.2 rfl ?_
      refine zz_if_le (tgt := 43) d_MO_openNumbered_39 (by decide) (by decide) (fun c19 => absurd c19 (by decide)) (fun c19 => ?_)
      refine ab_vret rfl d_MO_openNumbered_42 ?_
      rw [hQ]; exact (Or.inr ⟨_, _, rfl, hfr, hlen, hsl, h80, h110, h111, ptrI_0, (by omega), (by omega), (by omega)⟩)
    · cases hv
      rw [hGe]
      change ab_W _ _ _ G 16 [some (vR 80), some (vz wh), some (vz fo), some (vz n), none] [] _
      exfalso; omega
set_option maxRecDepth 100000 in
set_option maxHeartbeats 4000000 in
theorem y_MO_readName_9 {X : ab_X} {d : Nat} {Q : Outcome → ab_G → Prop} {o : Nat → Nat} {G0 : ab_G} {m_thrown : Int} {m_taped : Int} {m_length : Int} {m_out : Int} {m_wide : Int} {m_gathered : Int} {m_sets : Int} {m_ranges : Int} {m_nodes : Int} {m_at : Int} {m_flags : Int} {m_fault : Int} {m_place : Int} {m_numbered : Int} {m_depth : Int} {m_value : Int} {m_isNot : Int} {m_least0 : Int} {m_most0 : Int} {m_slot : Int} {m_work : Int} {m_got : Int} {m_rowMany : Int} {m_charAt : Int} {m_charWide : Int} {m_trail : Int} {m_isMatch : Int} {m_matchGroups : Int} {m_allFrom : Int} {m_allBefore : Int} {m_founds : Int} {m_pieces : Int} {m_writtenMany : Int} {m_templateWide : Int} {m_tooMuch : Int} {A_tape : Int → Int} {wh : Int} {fo : Int} (cta : 0 ≤ m_taped ∧ m_taped ≤ 2000) (jtp : rgs A_tape 2000 0 255) (cat : 0 ≤ m_at ∧ m_at < m_taped) (hd : 1 ≤ d) : ∀ (mz : Nat) {G : ab_G} {n : Int}, (cc o G 80 280 (ab_ob 12 (mof m_thrown m_taped m_length m_out m_wide m_gathered m_sets m_ranges m_nodes m_at m_flags m_fault m_place m_numbered m_depth m_value m_isNot m_least0 m_most0 m_slot m_work m_got m_rowMany m_charAt m_charWide m_trail m_isMatch m_matchGroups m_allFrom m_allBefore m_founds m_pieces m_writtenMany m_templateWide m_tooMuch))) → (cc o G 84 284 (za 2000 A_tape)) → (0 ≤ n ∧ n ≤ 13) → (wlI A_tape m_taped (m_at + 4) n) → (fx o o [] G0 G) → (G.length = G0.length) → (ab_slots G = ab_slots G0) → (Int.toNat (13 - n) < mz) → (∀ (G2 : ab_G) (n2 : Int), (0 ≤ n2 ∧ n2 ≤ 13) → (wlR A_tape m_taped (m_at + 4) n2) → (fx o o [] G0 G2) → (G2.length = G0.length) → (ab_slots G2 = ab_slots G0) → ab_W X (ab_pl y_MO_readName b_MO_readName 7 none) d G2 44 [some (vR 80), some (vz wh), some (vz fo), some (vz n2), none, none, none] [] Q) → ab_W X (ab_pl y_MO_readName b_MO_readName 7 none) d G 9 [some (vR 80), some (vz wh), some (vz fo), some (vz n), none, none, none] [] Q := by
  intro mz
  induction mz with
  | zero => intro G n h80 h84 ci jwl hfr hlen hsl hm hk0; exact absurd hm (Nat.not_lt_zero _)
  | succ mz ih =>
    intro G n h80 h84 ci jwl hfr hlen hsl hm hk0
    refine ab_iload_n d_MO_readName_9 rfl ?_
    refine zz_bipush d_MO_readName_10 (by decide) ?_
    refine zz_icmp_ge (tgt := 44) d_MO_readName_12 (by decide) (by omega) (by decide) (fun c1 => ?_) (fun c1 => ?_)
    · exact hk0 _ _ (by omega) (by first | exact wl_e jwl (by omega) (Or.inl (by omega)) | exact wl_e jwl (by omega) (Or.inr (by rw [show m_at + 4 + n = m_at + n + 4 by omega, show tpk A_tape m_taped (m_at + n + 4) = -1 by omega]; exact isW_n))) hfr hlen hsl
    · refine ab_aload_n d_MO_readName_15 rfl ?_
      refine zz_iconst d_MO_readName_16 ?_
      refine ab_iload_n d_MO_readName_17 rfl ?_
      refine zz_iadd d_MO_readName_18 ?_
      refine ab_callV (d' := d - 1) (as := [vz (4 + n)]) (st := []) (r := _) (z_MO_here (o := o) (m_thrown := m_thrown) (m_taped := m_taped) (m_length := m_length) (m_out := m_out) (m_wide := m_wide) (m_gathered := m_gathered) (m_sets := m_sets) (m_ranges := m_ranges) (m_nodes := m_nodes) (m_at := m_at) (m_flags := m_flags) (m_fault := m_fault) (m_place := m_place) (m_numbered := m_numbered) (m_depth := m_depth) (m_value := m_value) (m_isNot := m_isNot) (m_least0 := m_least0) (m_most0 := m_most0) (m_slot := m_slot) (m_work := m_work) (m_got := m_got) (m_rowMany := m_rowMany) (m_charAt := m_charAt) (m_charWide := m_charWide) (m_trail := m_trail) (m_isMatch := m_isMatch) (m_matchGroups := m_matchGroups) (m_allFrom := m_allFrom) (m_allBefore := m_allBefore) (m_founds := m_founds) (m_pieces := m_pieces) (m_writtenMany := m_writtenMany) (m_templateWide := m_templateWide) (m_tooMuch := m_tooMuch) (A_tape := A_tape) (k := (4 + n)) (qh := (m_at + n + 4)) h80 h84 (by omega) (by omega) jtp (by omega) (by omega)) (fun oc G2 h => by rcases h with ⟨h, _⟩ | ⟨h, _⟩ <;> exact ⟨_, h⟩) (by omega) m_MO_here ml_MO_297 im_MO_here se_MO_here c_MO h80.2.2 (Nat.le_of_ble_eq_true rfl) d_MO_readName_19 rfl ?_
      intro v G2 hq
      rcases hq with ⟨hv, hGe, hq3⟩ | ⟨hv, hGe, hq4, hq5⟩
      · cases hv
        rw [hGe]
        change ab_W _ _ _ G 22 [some (vR 80), some (vz wh), some (vz fo), some (vz n), none, none, none] [vz (tpk A_tape m_taped (m_at + n + 4))] _
        refine zz_if_lt (tgt := 44) d_MO_readName_22 (by decide) (by omega) (fun c6 => absurd c6 (by omega)) (fun c6 => ?_)
        refine ab_aload_n d_MO_readName_25 rfl ?_
        refine zz_iconst d_MO_readName_26 ?_
        refine ab_iload_n d_MO_readName_27 rfl ?_
        refine zz_iadd d_MO_readName_28 ?_
        refine ab_callV (d' := d - 1) (as := [vz (4 + n)]) (st := []) (r := _) (z_MO_here (o := o) (m_thrown := m_thrown) (m_taped := m_taped) (m_length := m_length) (m_out := m_out) (m_wide := m_wide) (m_gathered := m_gathered) (m_sets := m_sets) (m_ranges := m_ranges) (m_nodes := m_nodes) (m_at := m_at) (m_flags := m_flags) (m_fault := m_fault) (m_place := m_place) (m_numbered := m_numbered) (m_depth := m_depth) (m_value := m_value) (m_isNot := m_isNot) (m_least0 := m_least0) (m_most0 := m_most0) (m_slot := m_slot) (m_work := m_work) (m_got := m_got) (m_rowMany := m_rowMany) (m_charAt := m_charAt) (m_charWide := m_charWide) (m_trail := m_trail) (m_isMatch := m_isMatch) (m_matchGroups := m_matchGroups) (m_allFrom := m_allFrom) (m_allBefore := m_allBefore) (m_founds := m_founds) (m_pieces := m_pieces) (m_writtenMany := m_writtenMany) (m_templateWide := m_templateWide) (m_tooMuch := m_tooMuch) (A_tape := A_tape) (k := (4 + n)) (qh := (m_at + n + 4)) h80 h84 (by omega) (by omega) jtp (by omega) (by omega)) (fun oc G2 h => by rcases h with ⟨h, _⟩ | ⟨h, _⟩ <;> exact ⟨_, h⟩) (by omega) m_MO_here ml_MO_297 im_MO_here se_MO_here c_MO h80.2.2 (Nat.le_of_ble_eq_true rfl) d_MO_readName_29 rfl ?_
        intro v G7 hq
        rcases hq with ⟨hv, hGe, hq8⟩ | ⟨hv, hGe, hq9, hq10⟩
        · cases hv
          rw [hGe]
          change ab_W _ _ _ G 32 [some (vR 80), some (vz wh), some (vz fo), some (vz n), none, none, none] [vz (tpk A_tape m_taped (m_at + n + 4))] _
          refine ab_callS (d' := d - 1) (as := [vz (tpk A_tape m_taped (m_at + n + 4))]) (st := []) (z_MO_isWord (o := o) (x := (tpk A_tape m_taped (m_at + n + 4))) (by omega)) (fun oc G2 h => by rcases h with ⟨h, _⟩ | ⟨h, _⟩ <;> exact ⟨_, h⟩) (by omega) m_MO_isWord ml_MO_326 st_MO_isWord (Nat.le_of_ble_eq_true rfl) d_MO_readName_32 rfl ?_
          intro v G11 hq
          rcases hq with ⟨hv, hGe, hq12⟩ | ⟨hv, hGe, hq13⟩
          · cases hv
            rw [hGe]
            change ab_W _ _ _ G 35 [some (vR 80), some (vz wh), some (vz fo), some (vz n), none, none, none] [vz 1] _
            refine zz_if_eq (tgt := 44) d_MO_readName_35 (by decide) (by decide) (fun c14 => absurd c14 (by decide)) (fun c14 => ?_)
            refine zz_iinc d_MO_readName_38 rfl (Nat.le_of_ble_eq_true rfl) (Nat.le_of_ble_eq_true rfl) rfl ?_
            change ab_W _ _ _ G 41 [some (vR 80), some (vz wh), some (vz fo), some (vz (n + 1)), none, none, none] [] _
            refine ab_goto (tgt := 9) d_MO_readName_41 (by decide) ?_
            exact ih (n := (n + 1)) h80 h84 (by omega) (wlI_s jwl (by rw [show m_at + 4 + n = m_at + n + 4 by omega]; exact hq12)) hfr hlen hsl (by omega) hk0
          · cases hv
            rw [hGe]
            change ab_W _ _ _ G 35 [some (vR 80), some (vz wh), some (vz fo), some (vz n), none, none, none] [vz 0] _
            refine zz_if_eq (tgt := 44) d_MO_readName_35 (by decide) (by decide) (fun c15 => ?_) (fun c15 => absurd c15 (by decide))
            exact hk0 _ _ (by omega) (by exact wl_e jwl (by omega) (Or.inr (by rw [show m_at + 4 + n = m_at + n + 4 by omega]; exact hq13))) hfr hlen hsl
        · cases hv
          rw [hGe]
          change ab_W _ _ _ G 32 [some (vR 80), some (vz wh), some (vz fo), some (vz n), none, none, none] [vz (-1)] _
          exfalso; omega
      · cases hv
        rw [hGe]
        change ab_W _ _ _ G 22 [some (vR 80), some (vz wh), some (vz fo), some (vz n), none, none, none] [vz (-1)] _
        refine zz_if_lt (tgt := 44) d_MO_readName_22 (by decide) (by decide) (fun c16 => ?_) (fun c16 => absurd c16 (by decide))
        exact hk0 _ _ (by omega) (by first | exact wl_e jwl (by omega) (Or.inl (by omega)) | exact wl_e jwl (by omega) (Or.inr (by rw [show m_at + 4 + n = m_at + n + 4 by omega, show tpk A_tape m_taped (m_at + n + 4) = -1 by omega]; exact isW_n))) hfr hlen hsl
set_option maxRecDepth 100000 in
set_option maxHeartbeats 4000000 in
theorem y_MO_readName_125 {X : ab_X} {d : Nat} {Q : Outcome → ab_G → Prop} {o : Nat → Nat} {G0 : ab_G} {m_thrown : Int} {m_taped : Int} {m_length : Int} {m_out : Int} {m_wide : Int} {m_gathered : Int} {m_sets : Int} {m_ranges : Int} {m_nodes : Int} {m_at : Int} {m_flags : Int} {m_fault : Int} {m_place : Int} {m_numbered : Int} {m_depth : Int} {m_value : Int} {m_isNot : Int} {m_least0 : Int} {m_most0 : Int} {m_slot : Int} {m_work : Int} {m_got : Int} {m_rowMany : Int} {m_charAt : Int} {m_charWide : Int} {m_trail : Int} {m_isMatch : Int} {m_matchGroups : Int} {m_allFrom : Int} {m_allBefore : Int} {m_founds : Int} {m_pieces : Int} {m_writtenMany : Int} {m_templateWide : Int} {m_tooMuch : Int} {A_tape : Int → Int} {NS : Int → Int} {NM : Int → Int} {na : Int → Int} {nl : Int → Int} {wh : Int} {fo : Int} {n : Int} {g : Int} (cta : 0 ≤ m_taped ∧ m_taped ≤ 2000) (jtp : rgs A_tape 2000 0 255) (jns : rgs NS 120 0 255) (cnn : 1 ≤ n ∧ n ≤ 12 ∧ 0 ≤ fo ∧ fo + n ≤ m_taped) (cg : 1 ≤ g ∧ g ≤ 9 ∧ g ≤ m_numbered) (jnj : nmJ NS NM A_tape na nl m_numbered) (hd : 1 ≤ d) : ∀ (mz : Nat) {G : ab_G} {sm : Int} {k : Int}, (cc o G 80 280 (ab_ob 12 (mof m_thrown m_taped m_length m_out m_wide m_gathered m_sets m_ranges m_nodes m_at m_flags m_fault m_place m_numbered m_depth m_value m_isNot m_least0 m_most0 m_slot m_work m_got m_rowMany m_charAt m_charWide m_trail m_isMatch m_matchGroups m_allFrom m_allBefore m_founds m_pieces m_writtenMany m_templateWide m_tooMuch))) → (cc o G 84 284 (za 2000 A_tape)) → (cc o G 110 310 (za 120 NS)) → (0 ≤ sm ∧ sm ≤ 1 ∧ 0 ≤ k ∧ k ≤ n) → (sm = 1 → nl g = n) → (tnI A_tape na nl g fo n k sm) → (fx o o [] G0 G) → (G.length = G0.length) → (ab_slots G = ab_slots G0) → (Int.toNat (n - k) < mz) → (∀ (G2 : ab_G) (s2 : Int) (i2 : Int), (0 ≤ s2 ∧ s2 ≤ 1) → (tnI A_tape na nl g fo n i2 s2) → (i2 < n → s2 = 0) → (fx o o [] G0 G2) → (G2.length = G0.length) → (ab_slots G2 = ab_slots G0) → ab_W X (ab_pl y_MO_readName b_MO_readName 7 none) d G2 174 [some (vR 80), some (vz wh), some (vz fo), some (vz n), some (vz g), some (vz s2), none] [] Q) → ab_W X (ab_pl y_MO_readName b_MO_readName 7 none) d G 125 [some (vR 80), some (vz wh), some (vz fo), some (vz n), some (vz g), some (vz sm), some (vz k)] [] Q := by
  intro mz
  induction mz with
  | zero => intro G sm k h80 h84 h110 ci jcx jtn hfr hlen hsl hm hk0; exact absurd hm (Nat.not_lt_zero _)
  | succ mz ih =>
    intro G sm k h80 h84 h110 ci jcx jtn hfr hlen hsl hm hk0
    refine ab_iload d_MO_readName_125 rfl ?_
    refine ab_iload_n d_MO_readName_127 rfl ?_
    refine zz_icmp_ge (tgt := 174) d_MO_readName_128 (by decide) (by omega) (by omega) (fun c1 => ?_) (fun c1 => ?_)
    · refine ab_less (L' := [some (vR 80), some (vz wh), some (vz fo), some (vz n), some (vz g), some (vz sm), none]) (fun i v h => by rcases i with _ | _ | _ | _ | _ | _ | _ | i <;> first | exact h | (simp at h)) ?_
      exact hk0 _ _ k (by omega) (by exact jtn) (by intro _; omega) hfr hlen hsl
    · refine ab_iload d_MO_readName_131 rfl ?_
      refine zz_if_eq (tgt := 174) d_MO_readName_133 (by decide) (by omega) (fun c2 => ?_) (fun c2 => ?_)
      · refine ab_less (L' := [some (vR 80), some (vz wh), some (vz fo), some (vz n), some (vz g), some (vz sm), none]) (fun i v h => by rcases i with _ | _ | _ | _ | _ | _ | _ | i <;> first | exact h | (simp at h)) ?_
        exact hk0 _ _ k (by omega) (by exact jtn) (by intro _; omega) hfr hlen hsl
      · have hnl_ := jcx (by omega)
        have hns_ := (jnj g (by omega) (by omega)).2 k (by omega) (by omega)
        refine ab_aload_n d_MO_readName_136 rfl ?_
        refine ab_getf (fs := mof m_thrown m_taped m_length m_out m_wide m_gathered m_sets m_ranges m_nodes m_at m_flags m_fault m_place m_numbered m_depth m_value m_isNot m_least0 m_most0 m_slot m_work m_got m_rowMany m_charAt m_charWide m_trail m_isMatch m_matchGroups m_allFrom m_allBefore m_founds m_pieces m_writtenMany m_templateWide m_tooMuch) f_MO_103 d_MO_readName_137 h80.2.2 rfl ?_
        refine zz_bipush d_MO_readName_140 (by decide) ?_
        refine ab_iload d_MO_readName_142 rfl ?_
        refine zz_imul d_MO_readName_144 ?_
        refine ab_iload d_MO_readName_145 rfl ?_
        refine zz_iadd d_MO_readName_147 ?_
        refine zz_iald d_MO_readName_148 h110 (by omega) ?_
        have hq3 := jns ((12 * g) + k) (by omega) (by omega)
        refine ab_aload_n d_MO_readName_149 rfl ?_
        refine ab_getf (fs := mof m_thrown m_taped m_length m_out m_wide m_gathered m_sets m_ranges m_nodes m_at m_flags m_fault m_place m_numbered m_depth m_value m_isNot m_least0 m_most0 m_slot m_work m_got m_rowMany m_charAt m_charWide m_trail m_isMatch m_matchGroups m_allFrom m_allBefore m_founds m_pieces m_writtenMany m_templateWide m_tooMuch) f_MO_19 d_MO_readName_150 h80.2.2 rfl ?_
        refine ab_iload_n d_MO_readName_153 rfl ?_
        refine ab_iload d_MO_readName_154 rfl ?_
        refine zz_iadd d_MO_readName_156 ?_
        refine zz_iald d_MO_readName_157 h84 (by omega) ?_
        have hq4 := jtp (fo + k) (by omega) (by omega)
        refine zz_icmp_ne (tgt := 165) d_MO_readName_158 (by decide) (by omega) (by omega) (fun c5 => ?_) (fun c5 => ?_)
        · refine zz_iconst d_MO_readName_165 ?_
          refine ab_istore d_MO_readName_166 (Nat.le_of_ble_eq_true rfl) (Nat.le_of_ble_eq_true rfl) rfl ?_
          change ab_W _ _ _ G 168 [some (vR 80), some (vz wh), some (vz fo), some (vz n), some (vz g), some (vz 0), some (vz k)] [] _
          refine zz_iinc d_MO_readName_168 rfl (Nat.le_of_ble_eq_true rfl) (Nat.le_of_ble_eq_true rfl) rfl ?_
          change ab_W _ _ _ G 171 [some (vR 80), some (vz wh), some (vz fo), some (vz n), some (vz g), some (vz 0), some (vz (k + 1))] [] _
          refine ab_goto (tgt := 125) d_MO_readName_171 (by decide) ?_
          exact ih (sm := 0) (k := (k + 1)) h80 h84 h110 (by omega) (fun h_ => by omega) (tnI_0 (by omega) (by omega)) hfr hlen hsl (by omega) hk0
        · refine zz_iconst d_MO_readName_161 ?_
          refine ab_goto (tgt := 166) d_MO_readName_162 (by decide) ?_
          refine ab_istore d_MO_readName_166 (Nat.le_of_ble_eq_true rfl) (Nat.le_of_ble_eq_true rfl) rfl ?_
          change ab_W _ _ _ G 168 [some (vR 80), some (vz wh), some (vz fo), some (vz n), some (vz g), some (vz 1), some (vz k)] [] _
          refine zz_iinc d_MO_readName_168 rfl (Nat.le_of_ble_eq_true rfl) (Nat.le_of_ble_eq_true rfl) rfl ?_
          change ab_W _ _ _ G 171 [some (vR 80), some (vz wh), some (vz fo), some (vz n), some (vz g), some (vz 1), some (vz (k + 1))] [] _
          refine ab_goto (tgt := 125) d_MO_readName_171 (by decide) ?_
          exact ih (sm := 1) (k := (k + 1)) h80 h84 h110 (by omega) (fun h_ => by omega) (tnI_1 jtn (by omega) (by omega)) hfr hlen hsl (by omega) hk0
set_option maxRecDepth 100000 in
set_option maxHeartbeats 4000000 in
theorem y_MO_readName_88 {X : ab_X} {d : Nat} {Q : Outcome → ab_G → Prop} {o : Nat → Nat} {G0 : ab_G} {m_thrown : Int} {m_taped : Int} {m_length : Int} {m_out : Int} {m_wide : Int} {m_gathered : Int} {m_sets : Int} {m_ranges : Int} {m_nodes : Int} {m_at : Int} {m_flags : Int} {m_numbered : Int} {m_depth : Int} {m_value : Int} {m_isNot : Int} {m_least0 : Int} {m_most0 : Int} {m_slot : Int} {m_work : Int} {m_got : Int} {m_rowMany : Int} {m_charAt : Int} {m_charWide : Int} {m_trail : Int} {m_isMatch : Int} {m_matchGroups : Int} {m_allFrom : Int} {m_allBefore : Int} {m_founds : Int} {m_pieces : Int} {m_writtenMany : Int} {m_templateWide : Int} {m_tooMuch : Int} {A_tape : Int → Int} {NS : Int → Int} {NM : Int → Int} {na : Int → Int} {nl : Int → Int} {wh : Int} {fo : Int} {n : Int} {pl0 : Int} (n18 : ab_n0 = 18) (cta : 0 ≤ m_taped ∧ m_taped ≤ 2000) (jtp : rgs A_tape 2000 0 255) (jns : rgs NS 120 0 255) (jnm : rgs NM 10 0 12) (cnn : 1 ≤ n ∧ n ≤ 12 ∧ 0 ≤ fo ∧ fo + n ≤ m_taped) (cnu : 0 ≤ m_numbered ∧ m_numbered ≤ 9) (jnj : nmJ NS NM A_tape na nl m_numbered) (hd : 1 ≤ d) : ∀ (mz : Nat) {G : ab_G} {g : Int} {m_fault : Int} {m_place : Int}, (cc o G 80 280 (ab_ob 12 (mof m_thrown m_taped m_length m_out m_wide m_gathered m_sets m_ranges m_nodes m_at m_flags m_fault m_place m_numbered m_depth m_value m_isNot m_least0 m_most0 m_slot m_work m_got m_rowMany m_charAt m_charWide m_trail m_isMatch m_matchGroups m_allFrom m_allBefore m_founds m_pieces m_writtenMany m_templateWide m_tooMuch))) → (cc o G 84 284 (za 2000 A_tape)) → (cc o G 110 310 (za 120 NS)) → (cc o G 111 311 (za 10 NM)) → (1 ≤ g ∧ g ≤ 10 ∧ g ≤ m_numbered + 1 ∧ 0 ≤ m_fault ∧ m_fault ≤ 14) → ((m_fault = 0 ∧ tkI A_tape na nl g fo n 0) ∨ (m_fault = 11 ∧ m_place = wh ∧ tkI A_tape na nl g fo n 1)) → (1 ≤ m_fault ∨ m_place = pl0) → (fx o o [280] G0 G) → (G.length = G0.length) → (ab_slots G = ab_slots G0) → (Int.toNat (10 - g) < mz) → (∀ (G2 : ab_G) (f2 : Int) (p2 : Int), (cc o G2 80 280 (ab_ob 12 (mof m_thrown m_taped m_length m_out m_wide m_gathered m_sets m_ranges m_nodes m_at m_flags f2 p2 m_numbered m_depth m_value m_isNot m_least0 m_most0 m_slot m_work m_got m_rowMany m_charAt m_charWide m_trail m_isMatch m_matchGroups m_allFrom m_allBefore m_founds m_pieces m_writtenMany m_templateWide m_tooMuch))) → (0 ≤ f2 ∧ f2 ≤ 14) → ((f2 = 0 ∧ tkI A_tape na nl (m_numbered + 1) fo n 0) ∨ (f2 = 11 ∧ p2 = wh ∧ tkI A_tape na nl (m_numbered + 1) fo n 1)) → (1 ≤ f2 ∨ p2 = pl0) → (fx o o [280] G0 G2) → (G2.length = G0.length) → (ab_slots G2 = ab_slots G0) → ab_W X (ab_pl y_MO_readName b_MO_readName 7 none) d G2 192 [some (vR 80), some (vz wh), some (vz fo), some (vz n), none, none, none] [] Q) → ab_W X (ab_pl y_MO_readName b_MO_readName 7 none) d G 88 [some (vR 80), some (vz wh), some (vz fo), some (vz n), some (vz g), none, none] [] Q := by
  intro mz
  induction mz with
  | zero => intro G g m_fault m_place h80 h84 h110 h111 ci jtk jp hfr hlen hsl hm hk0; exact absurd hm (Nat.not_lt_zero _)
  | succ mz ih =>
    intro G g m_fault m_place h80 h84 h110 h111 ci jtk jp hfr hlen hsl hm hk0
    refine ab_iload d_MO_readName_88 rfl ?_
    refine ab_aload_n d_MO_readName_90 rfl ?_
    refine ab_getf (fs := mof m_thrown m_taped m_length m_out m_wide m_gathered m_sets m_ranges m_nodes m_at m_flags m_fault m_place m_numbered m_depth m_value m_isNot m_least0 m_most0 m_slot m_work m_got m_rowMany m_charAt m_charWide m_trail m_isMatch m_matchGroups m_allFrom m_allBefore m_founds m_pieces m_writtenMany m_templateWide m_tooMuch) f_MO_395 d_MO_readName_91 h80.2.2 rfl ?_
    refine zz_icmp_gt (tgt := 192) d_MO_readName_94 (by decide) (by omega) (by omega) (fun c1 => ?_) (fun c1 => ?_)
    · refine ab_less (L' := [some (vR 80), some (vz wh), some (vz fo), some (vz n), none, none, none]) (fun i v h => by rcases i with _ | _ | _ | _ | _ | _ | _ | i <;> first | exact h | (simp at h)) ?_
      exact hk0 _ _ _ h80 (by omega) (by have t_ := jtk; rw [show g = m_numbered + 1 by omega] at t_; exact t_) (by omega) hfr hlen hsl
    · refine ab_iload d_MO_readName_97 rfl ?_
      refine zz_bipush d_MO_readName_99 (by decide) ?_
      refine zz_icmp_ge (tgt := 192) d_MO_readName_101 (by decide) (by omega) (by decide) (fun c2 => absurd c2 (by omega)) (fun c2 => ?_)
      have hnm_ := (jnj g (by omega) (by omega)).1
      refine ab_aload_n d_MO_readName_104 rfl ?_
      refine ab_getf (fs := mof m_thrown m_taped m_length m_out m_wide m_gathered m_sets m_ranges m_nodes m_at m_flags m_fault m_place m_numbered m_depth m_value m_isNot m_least0 m_most0 m_slot m_work m_got m_rowMany m_charAt m_charWide m_trail m_isMatch m_matchGroups m_allFrom m_allBefore m_founds m_pieces m_writtenMany m_templateWide m_tooMuch) f_MO_106 d_MO_readName_105 h80.2.2 rfl ?_
      refine ab_iload d_MO_readName_108 rfl ?_
      refine zz_iald d_MO_readName_110 h111 (by omega) ?_
      have hq3 := jnm g (by omega) (by omega)
      refine ab_iload_n d_MO_readName_111 rfl ?_
      refine zz_icmp_ne (tgt := 119) d_MO_readName_112 (by decide) (by omega) (by omega) (fun c4 => ?_) (fun c4 => ?_)
      · refine zz_iconst d_MO_readName_119 ?_
        refine ab_istore d_MO_readName_120 (Nat.le_of_ble_eq_true rfl) (Nat.le_of_ble_eq_true rfl) rfl ?_
        change ab_W _ _ _ G 122 [some (vR 80), some (vz wh), some (vz fo), some (vz n), some (vz g), some (vz 0), none] [] _
        refine zz_iconst d_MO_readName_122 ?_
        refine ab_istore d_MO_readName_123 (Nat.le_of_ble_eq_true rfl) (Nat.le_of_ble_eq_true rfl) rfl ?_
        change ab_W _ _ _ G 125 [some (vR 80), some (vz wh), some (vz fo), some (vz n), some (vz g), some (vz 0), some (vz 0)] [] _
        refine y_MO_readName_125 (m_thrown := m_thrown) (m_taped := m_taped) (m_length := m_length) (m_out := m_out) (m_wide := m_wide) (m_gathered := m_gathered) (m_sets := m_sets) (m_ranges := m_ranges) (m_nodes := m_nodes) (m_at := m_at) (m_flags := m_flags) (m_fault := m_fault) (m_place := m_place) (m_numbered := m_numbered) (m_depth := m_depth) (m_value := m_value) (m_isNot := m_isNot) (m_least0 := m_least0) (m_most0 := m_most0) (m_slot := m_slot) (m_work := m_work) (m_got := m_got) (m_rowMany := m_rowMany) (m_charAt := m_charAt) (m_charWide := m_charWide) (m_trail := m_trail) (m_isMatch := m_isMatch) (m_matchGroups := m_matchGroups) (m_allFrom := m_allFrom) (m_allBefore := m_allBefore) (m_founds := m_founds) (m_pieces := m_pieces) (m_writtenMany := m_writtenMany) (m_templateWide := m_templateWide) (m_tooMuch := m_tooMuch) (A_tape := A_tape) (NS := NS) (wh := wh) (fo := fo) (n := n) (g := g) (G0 := G) (sm := 0) (k := 0) (by omega) jtp jns (by omega) (by omega) jnj (by omega) (Int.toNat (n - 0) + 1) h80 h84 h110 (by omega) (fun h_ => by omega) (tnI_n (by omega)) fx.rf rfl rfl (by omega) (fun G5 s26 i27 hq8 hq9 hq10 hfk hlk hsk => ?_)
        · have h80 := hfk.get h80 (by decide)
          have h84 := hfk.get h84 (by decide)
          have h110 := hfk.get h110 (by decide)
          have h111 := hfk.get h111 (by decide)
          have hfr := hfr.tr hfk (by decide)
          have hlen := hlk.trans hlen
          have hsl := hsk.trans hsl
          change ab_W _ _ _ G5 174 [some (vR 80), some (vz wh), some (vz fo), some (vz n), some (vz g), some (vz s26), none] [] _
          refine ab_iload d_MO_readName_174 rfl ?_
          refine zz_if_eq (tgt := 186) d_MO_readName_176 (by decide) (by omega) (fun c11 => ?_) (fun c11 => ?_)
          · refine zz_iinc d_MO_readName_186 rfl (Nat.le_of_ble_eq_true rfl) (Nat.le_of_ble_eq_true rfl) rfl ?_
            change ab_W _ _ _ G5 189 [some (vR 80), some (vz wh), some (vz fo), some (vz n), some (vz (g + 1)), some (vz s26), none] [] _
            refine ab_goto (tgt := 88) d_MO_readName_189 (by decide) ?_
            refine ab_less (L' := [some (vR 80), some (vz wh), some (vz fo), some (vz n), some (vz (g + 1)), none, none]) (fun i v h => by rcases i with _ | _ | _ | _ | _ | _ | _ | i <;> first | exact h | (simp at h)) ?_
            exact ih (g := (g + 1)) (m_fault := m_fault) (m_place := m_place) h80 h84 h110 h111 (by omega) (by rcases jtk with ⟨y0, y⟩ | ⟨y0, y1, y⟩; (first | exact Or.inl ⟨by omega, (by have t_ := tkI_s y rfl (by omega) hq9 (by omega); rw [show s26 = 0 by omega] at t_; exact t_)⟩ | exact Or.inr ⟨by omega, by omega, (by have t_ := tkI_s y rfl (by omega) hq9 (by omega); rw [show s26 = 1 by omega] at t_; exact t_)⟩ | (exfalso; omega)); (first | exact Or.inr ⟨by omega, by omega, tkI_up y rfl (by omega)⟩ | (exfalso; omega))) (by omega) hfr hlen hsl (by omega) hk0
          · refine ab_aload_n d_MO_readName_179 rfl ?_
            refine zz_bipush d_MO_readName_180 (by decide) ?_
            refine ab_iload_n d_MO_readName_182 rfl ?_
            refine ab_callV (d' := d - 1) (as := [vz 11, vz wh]) (st := []) (r := _) (z_MO_wrong (o := o) (m_thrown := m_thrown) (m_taped := m_taped) (m_length := m_length) (m_out := m_out) (m_wide := m_wide) (m_gathered := m_gathered) (m_sets := m_sets) (m_ranges := m_ranges) (m_nodes := m_nodes) (m_at := m_at) (m_flags := m_flags) (m_fault := m_fault) (m_place := m_place) (m_numbered := m_numbered) (m_depth := m_depth) (m_value := m_value) (m_isNot := m_isNot) (m_least0 := m_least0) (m_most0 := m_most0) (m_slot := m_slot) (m_work := m_work) (m_got := m_got) (m_rowMany := m_rowMany) (m_charAt := m_charAt) (m_charWide := m_charWide) (m_trail := m_trail) (m_isMatch := m_isMatch) (m_matchGroups := m_matchGroups) (m_allFrom := m_allFrom) (m_allBefore := m_allBefore) (m_founds := m_founds) (m_pieces := m_pieces) (m_writtenMany := m_writtenMany) (m_templateWide := m_templateWide) (m_tooMuch := m_tooMuch) (x := 11) (y := wh) h80 (by omega) (by omega)) (fun oc G2 h => by rcases h with ⟨h, _⟩ | ⟨h, _⟩ <;> exact ⟨_, h⟩) (by omega) m_MO_wrong ml_MO_304 im_MO_wrong se_MO_wrong c_MO h80.2.2 (Nat.le_of_ble_eq_true rfl) d_MO_readName_183 rfl ?_
            intro v G12 hq
            rcases hq with ⟨hv, hfk, hlk, hsk, hN80, hq13⟩ | ⟨hv, hGe, hq14⟩
            · cases hv
              have h84 := hfk.get h84 (by decide)
              have h110 := hfk.get h110 (by decide)
              have h111 := hfk.get h111 (by decide)
              have hfr := hfr.tr hfk (by decide)
              have hlen := hlk.trans hlen
              have hsl := hsk.trans hsl
              have h80 := hN80
              change ab_W _ _ _ G12 186 [some (vR 80), some (vz wh), some (vz fo), some (vz n), some (vz g), some (vz s26), none] [] _
              refine zz_iinc d_MO_readName_186 rfl (Nat.le_of_ble_eq_true rfl) (Nat.le_of_ble_eq_true rfl) rfl ?_
              change ab_W _ _ _ G12 189 [some (vR 80), some (vz wh), some (vz fo), some (vz n), some (vz (g + 1)), some (vz s26), none] [] _
              refine ab_goto (tgt := 88) d_MO_readName_189 (by decide) ?_
              refine ab_less (L' := [some (vR 80), some (vz wh), some (vz fo), some (vz n), some (vz (g + 1)), none, none]) (fun i v h => by rcases i with _ | _ | _ | _ | _ | _ | _ | i <;> first | exact h | (simp at h)) ?_
              exact ih (g := (g + 1)) (m_fault := 11) (m_place := wh) h80 h84 h110 h111 (by omega) (by rcases jtk with ⟨y0, y⟩ | ⟨y0, y1, y⟩; (first | exact Or.inl ⟨by omega, (by have t_ := tkI_s y rfl (by omega) hq9 (by omega); rw [show s26 = 0 by omega] at t_; exact t_)⟩ | exact Or.inr ⟨by omega, by omega, (by have t_ := tkI_s y rfl (by omega) hq9 (by omega); rw [show s26 = 1 by omega] at t_; exact t_)⟩ | (exfalso; omega)); (first | exact Or.inr ⟨by omega, by omega, tkI_up y rfl (by omega)⟩ | (exfalso; omega))) (by omega) hfr hlen hsl (by omega) hk0
            · cases hv
              rw [hGe]
              change ab_W _ _ _ G5 186 [some (vR 80), some (vz wh), some (vz fo), some (vz n), some (vz g), some (vz s26), none] [] _
              refine zz_iinc d_MO_readName_186 rfl (Nat.le_of_ble_eq_true rfl) (Nat.le_of_ble_eq_true rfl) rfl ?_
              change ab_W _ _ _ G5 189 [some (vR 80), some (vz wh), some (vz fo), some (vz n), some (vz (g + 1)), some (vz s26), none] [] _
              refine ab_goto (tgt := 88) d_MO_readName_189 (by decide) ?_
              refine ab_less (L' := [some (vR 80), some (vz wh), some (vz fo), some (vz n), some (vz (g + 1)), none, none]) (fun i v h => by rcases i with _ | _ | _ | _ | _ | _ | _ | i <;> first | exact h | (simp at h)) ?_
              exact ih (g := (g + 1)) (m_fault := m_fault) (m_place := m_place) h80 h84 h110 h111 (by omega) (by rcases jtk with ⟨y0, y⟩ | ⟨y0, y1, y⟩; (first | exact Or.inl ⟨by omega, (by have t_ := tkI_s y rfl (by omega) hq9 (by omega); rw [show s26 = 0 by omega] at t_; exact t_)⟩ | exact Or.inr ⟨by omega, by omega, (by have t_ := tkI_s y rfl (by omega) hq9 (by omega); rw [show s26 = 1 by omega] at t_; exact t_)⟩ | (exfalso; omega)); (first | exact Or.inr ⟨by omega, by omega, tkI_up y rfl (by omega)⟩ | (exfalso; omega))) (by omega) hfr hlen hsl (by omega) hk0
      · refine zz_iconst d_MO_readName_115 ?_
        refine ab_goto (tgt := 120) d_MO_readName_116 (by decide) ?_
        refine ab_istore d_MO_readName_120 (Nat.le_of_ble_eq_true rfl) (Nat.le_of_ble_eq_true rfl) rfl ?_
        change ab_W _ _ _ G 122 [some (vR 80), some (vz wh), some (vz fo), some (vz n), some (vz g), some (vz 1), none] [] _
        refine zz_iconst d_MO_readName_122 ?_
        refine ab_istore d_MO_readName_123 (Nat.le_of_ble_eq_true rfl) (Nat.le_of_ble_eq_true rfl) rfl ?_
        change ab_W _ _ _ G 125 [some (vR 80), some (vz wh), some (vz fo), some (vz n), some (vz g), some (vz 1), some (vz 0)] [] _
        refine y_MO_readName_125 (m_thrown := m_thrown) (m_taped := m_taped) (m_length := m_length) (m_out := m_out) (m_wide := m_wide) (m_gathered := m_gathered) (m_sets := m_sets) (m_ranges := m_ranges) (m_nodes := m_nodes) (m_at := m_at) (m_flags := m_flags) (m_fault := m_fault) (m_place := m_place) (m_numbered := m_numbered) (m_depth := m_depth) (m_value := m_value) (m_isNot := m_isNot) (m_least0 := m_least0) (m_most0 := m_most0) (m_slot := m_slot) (m_work := m_work) (m_got := m_got) (m_rowMany := m_rowMany) (m_charAt := m_charAt) (m_charWide := m_charWide) (m_trail := m_trail) (m_isMatch := m_isMatch) (m_matchGroups := m_matchGroups) (m_allFrom := m_allFrom) (m_allBefore := m_allBefore) (m_founds := m_founds) (m_pieces := m_pieces) (m_writtenMany := m_writtenMany) (m_templateWide := m_templateWide) (m_tooMuch := m_tooMuch) (A_tape := A_tape) (NS := NS) (wh := wh) (fo := fo) (n := n) (g := g) (G0 := G) (sm := 1) (k := 0) (by omega) jtp jns (by omega) (by omega) jnj (by omega) (Int.toNat (n - 0) + 1) h80 h84 h110 (by omega) (fun h_ => by omega) (tnI_b (by omega)) fx.rf rfl rfl (by omega) (fun G15 s216 i217 hq18 hq19 hq20 hfk hlk hsk => ?_)
        · have h80 := hfk.get h80 (by decide)
          have h84 := hfk.get h84 (by decide)
          have h110 := hfk.get h110 (by decide)
          have h111 := hfk.get h111 (by decide)
          have hfr := hfr.tr hfk (by decide)
          have hlen := hlk.trans hlen
          have hsl := hsk.trans hsl
          change ab_W _ _ _ G15 174 [some (vR 80), some (vz wh), some (vz fo), some (vz n), some (vz g), some (vz s216), none] [] _
          refine ab_iload d_MO_readName_174 rfl ?_
          refine zz_if_eq (tgt := 186) d_MO_readName_176 (by decide) (by omega) (fun c21 => ?_) (fun c21 => ?_)
          · refine zz_iinc d_MO_readName_186 rfl (Nat.le_of_ble_eq_true rfl) (Nat.le_of_ble_eq_true rfl) rfl ?_
            change ab_W _ _ _ G15 189 [some (vR 80), some (vz wh), some (vz fo), some (vz n), some (vz (g + 1)), some (vz s216), none] [] _
            refine ab_goto (tgt := 88) d_MO_readName_189 (by decide) ?_
            refine ab_less (L' := [some (vR 80), some (vz wh), some (vz fo), some (vz n), some (vz (g + 1)), none, none]) (fun i v h => by rcases i with _ | _ | _ | _ | _ | _ | _ | i <;> first | exact h | (simp at h)) ?_
            exact ih (g := (g + 1)) (m_fault := m_fault) (m_place := m_place) h80 h84 h110 h111 (by omega) (by rcases jtk with ⟨y0, y⟩ | ⟨y0, y1, y⟩; (first | exact Or.inl ⟨by omega, (by have t_ := tkI_s y rfl (by omega) hq19 (by omega); rw [show s216 = 0 by omega] at t_; exact t_)⟩ | exact Or.inr ⟨by omega, by omega, (by have t_ := tkI_s y rfl (by omega) hq19 (by omega); rw [show s216 = 1 by omega] at t_; exact t_)⟩ | (exfalso; omega)); (first | exact Or.inr ⟨by omega, by omega, tkI_up y rfl (by omega)⟩ | (exfalso; omega))) (by omega) hfr hlen hsl (by omega) hk0
          · refine ab_aload_n d_MO_readName_179 rfl ?_
            refine zz_bipush d_MO_readName_180 (by decide) ?_
            refine ab_iload_n d_MO_readName_182 rfl ?_
            refine ab_callV (d' := d - 1) (as := [vz 11, vz wh]) (st := []) (r := _) (z_MO_wrong (o := o) (m_thrown := m_thrown) (m_taped := m_taped) (m_length := m_length) (m_out := m_out) (m_wide := m_wide) (m_gathered := m_gathered) (m_sets := m_sets) (m_ranges := m_ranges) (m_nodes := m_nodes) (m_at := m_at) (m_flags := m_flags) (m_fault := m_fault) (m_place := m_place) (m_numbered := m_numbered) (m_depth := m_depth) (m_value := m_value) (m_isNot := m_isNot) (m_least0 := m_least0) (m_most0 := m_most0) (m_slot := m_slot) (m_work := m_work) (m_got := m_got) (m_rowMany := m_rowMany) (m_charAt := m_charAt) (m_charWide := m_charWide) (m_trail := m_trail) (m_isMatch := m_isMatch) (m_matchGroups := m_matchGroups) (m_allFrom := m_allFrom) (m_allBefore := m_allBefore) (m_founds := m_founds) (m_pieces := m_pieces) (m_writtenMany := m_writtenMany) (m_templateWide := m_templateWide) (m_tooMuch := m_tooMuch) (x := 11) (y := wh) h80 (by omega) (by omega)) (fun oc G2 h => by rcases h with ⟨h, _⟩ | ⟨h, _⟩ <;> exact ⟨_, h⟩) (by omega) m_MO_wrong ml_MO_304 im_MO_wrong se_MO_wrong c_MO h80.2.2 (Nat.le_of_ble_eq_true rfl) d_MO_readName_183 rfl ?_
            intro v G22 hq
            rcases hq with ⟨hv, hfk, hlk, hsk, hN80, hq23⟩ | ⟨hv, hGe, hq24⟩
            · cases hv
              have h84 := hfk.get h84 (by decide)
              have h110 := hfk.get h110 (by decide)
              have h111 := hfk.get h111 (by decide)
              have hfr := hfr.tr hfk (by decide)
              have hlen := hlk.trans hlen
              have hsl := hsk.trans hsl
              have h80 := hN80
              change ab_W _ _ _ G22 186 [some (vR 80), some (vz wh), some (vz fo), some (vz n), some (vz g), some (vz s216), none] [] _
              refine zz_iinc d_MO_readName_186 rfl (Nat.le_of_ble_eq_true rfl) (Nat.le_of_ble_eq_true rfl) rfl ?_
              change ab_W _ _ _ G22 189 [some (vR 80), some (vz wh), some (vz fo), some (vz n), some (vz (g + 1)), some (vz s216), none] [] _
              refine ab_goto (tgt := 88) d_MO_readName_189 (by decide) ?_
              refine ab_less (L' := [some (vR 80), some (vz wh), some (vz fo), some (vz n), some (vz (g + 1)), none, none]) (fun i v h => by rcases i with _ | _ | _ | _ | _ | _ | _ | i <;> first | exact h | (simp at h)) ?_
              exact ih (g := (g + 1)) (m_fault := 11) (m_place := wh) h80 h84 h110 h111 (by omega) (by rcases jtk with ⟨y0, y⟩ | ⟨y0, y1, y⟩; (first | exact Or.inl ⟨by omega, (by have t_ := tkI_s y rfl (by omega) hq19 (by omega); rw [show s216 = 0 by omega] at t_; exact t_)⟩ | exact Or.inr ⟨by omega, by omega, (by have t_ := tkI_s y rfl (by omega) hq19 (by omega); rw [show s216 = 1 by omega] at t_; exact t_)⟩ | (exfalso; omega)); (first | exact Or.inr ⟨by omega, by omega, tkI_up y rfl (by omega)⟩ | (exfalso; omega))) (by omega) hfr hlen hsl (by omega) hk0
            · cases hv
              rw [hGe]
              change ab_W _ _ _ G15 186 [some (vR 80), some (vz wh), some (vz fo), some (vz n), some (vz g), some (vz s216), none] [] _
              refine zz_iinc d_MO_readName_186 rfl (Nat.le_of_ble_eq_true rfl) (Nat.le_of_ble_eq_true rfl) rfl ?_
              change ab_W _ _ _ G15 189 [some (vR 80), some (vz wh), some (vz fo), some (vz n), some (vz (g + 1)), some (vz s216), none] [] _
              refine ab_goto (tgt := 88) d_MO_readName_189 (by decide) ?_
              refine ab_less (L' := [some (vR 80), some (vz wh), some (vz fo), some (vz n), some (vz (g + 1)), none, none]) (fun i v h => by rcases i with _ | _ | _ | _ | _ | _ | _ | i <;> first | exact h | (simp at h)) ?_
              exact ih (g := (g + 1)) (m_fault := m_fault) (m_place := m_place) h80 h84 h110 h111 (by omega) (by rcases jtk with ⟨y0, y⟩ | ⟨y0, y1, y⟩; (first | exact Or.inl ⟨by omega, (by have t_ := tkI_s y rfl (by omega) hq19 (by omega); rw [show s216 = 0 by omega] at t_; exact t_)⟩ | exact Or.inr ⟨by omega, by omega, (by have t_ := tkI_s y rfl (by omega) hq19 (by omega); rw [show s216 = 1 by omega] at t_; exact t_)⟩ | (exfalso; omega)); (first | exact Or.inr ⟨by omega, by omega, tkI_up y rfl (by omega)⟩ | (exfalso; omega))) (by omega) hfr hlen hsl (by omega) hk0
set_option maxRecDepth 100000 in
set_option maxHeartbeats 4000000 in
theorem z_MO_readName {X : ab_X} {d : Nat} {o : Nat → Nat} {G : ab_G} {m_thrown : Int} {m_taped : Int} {m_length : Int} {m_out : Int} {m_wide : Int} {m_gathered : Int} {m_sets : Int} {m_ranges : Int} {m_nodes : Int} {m_at : Int} {m_flags : Int} {m_fault : Int} {m_place : Int} {m_numbered : Int} {m_depth : Int} {m_value : Int} {m_isNot : Int} {m_least0 : Int} {m_most0 : Int} {m_slot : Int} {m_work : Int} {m_got : Int} {m_rowMany : Int} {m_charAt : Int} {m_charWide : Int} {m_trail : Int} {m_isMatch : Int} {m_matchGroups : Int} {m_allFrom : Int} {m_allBefore : Int} {m_founds : Int} {m_pieces : Int} {m_writtenMany : Int} {m_templateWide : Int} {m_tooMuch : Int} {A_tape : Int → Int} {LO : Int → Int} {HI : Int → Int} {MK : Int → Int} {RL : Int → Int} {RH : Int → Int} {NS : Int → Int} {NM : Int → Int} {rp : Int} {ls : Int} {SV : Int → Int → Prop} {ro : Sn} {vv : Sn} {a1_ : Int} {b1_ : Int} {c1_ : Int} {d1_ : Int} {e1_ : Int} {t1_ : List Fr} {ao1_ : Option Sn} {ro1_ : Sn} {ts1_ : List Fs} {na : Int → Int} {nl : Int → Int} {wh : Int} (h80 : cc o G 80 280 (ab_ob 12 (mof m_thrown m_taped m_length m_out m_wide m_gathered m_sets m_ranges m_nodes m_at m_flags m_fault m_place m_numbered m_depth m_value m_isNot m_least0 m_most0 m_slot m_work m_got m_rowMany m_charAt m_charWide m_trail m_isMatch m_matchGroups m_allFrom m_allBefore m_founds m_pieces m_writtenMany m_templateWide m_tooMuch))) (h84 : cc o G 84 284 (za 2000 A_tape)) (h87 : cc o G 87 287 (za 9000 LO)) (h88 : cc o G 88 288 (za 9000 HI)) (h93 : cc o G 93 293 (zb 1200 MK)) (h81 : cc o G 81 281 (za 13 tbA)) (h82 : cc o G 82 282 (za 66 tbT)) (h91 : cc o G 91 291 (za 24000 RL)) (h92 : cc o G 92 292 (za 24000 RH)) (h110 : cc o G 110 310 (za 120 NS)) (h111 : cc o G 111 311 (za 10 NM)) (ptrI_0 : trI o G 0 m_nodes m_sets (m_depth + 1) (-1) 0 0 ((a1_, b1_, c1_, d1_, e1_) :: t1_) rp ls 0 SV ((ao1_, ro1_) :: ts1_) ro vv mnI RL RH m_ranges 0 0) (n18 : ab_n0 = 18) (cta : 0 ≤ m_taped ∧ m_taped ≤ 2000) (jtp : rgs A_tape 2000 0 255) (jmk : rgs MK 1200 0 1) (jrl : rgs RL 24000 0 1114111) (jrh : rgs RH 24000 0 1114111) (jns : rgs NS 120 0 255) (jnm : rgs NM 10 0 12) (cf : m_fault = 0) (cat : 0 ≤ m_at ∧ m_at < m_taped) (cpo : 0 ≤ m_nodes ∧ m_nodes + 2 * m_depth + 0 ≤ 2 * m_at ∧ 0 ≤ m_sets ∧ m_sets + 0 ≤ m_at ∧ 0 ≤ m_ranges ∧ m_ranges + 0 ≤ 12 * m_at ∧ 0 ≤ m_depth ∧ m_depth ≤ 30 ∧ 0 ≤ m_numbered ∧ m_numbered ≤ 9 ∧ -2147483648 ≤ m_flags ∧ m_flags ≤ 2147483647 ∧ -2147483648 ≤ m_value ∧ m_value ≤ 2147483647) (cfl : 0 ≤ m_flags ∧ m_flags ≤ 15) (crp : 0 ≤ rp ∧ rp ≤ 1) (jnj : nmJ NS NM A_tape na nl m_numbered) (hch : tpk A_tape m_taped m_at = 40) (hc1 : tpk A_tape m_taped (m_at + 1) = 63) (hc2 : tpk A_tape m_taped (m_at + 2) = 80) (cwh : wh = m_at) (hd : 3 ≤ d) : ab_F X d y_MO_readName (.code y_MO_readName b_MO_readName 7 none) [vR 80, vz wh] G (fun oc G2 => (∃ a2 : Int, ∃ v2 : Int, ∃ nt2 : Int, ∃ w2 : Int, ∃ g2 : Int, ∃ s2 : Int, ∃ r2 : Int, ∃ n2 : Int, ∃ fl2 : Int, ∃ nu2 : Int, ∃ d2 : Int, ∃ le2 : Int, ∃ mo2 : Int, ∃ f2 : Int, ∃ p2 : Int, ∃ LO2 : Int → Int, ∃ HI2 : Int → Int, ∃ MK2 : Int → Int, ∃ RL2 : Int → Int, ∃ RH2 : Int → Int, ∃ NS2 : Int → Int, ∃ NM2 : Int → Int, ∃ fr2 : List Fr, ∃ rp2 : Int, ∃ ls2 : Int, ∃ SV2 : Int → Int → Prop, ∃ FS2 : List Fs, ∃ ro2 : Sn, ∃ vv2 : Sn, ∃ na2 : Int → Int, ∃ nl2 : Int → Int, oc = .returned none ∧ fx o o [280, 287, 288, 293, 291, 292, 310, 311, 294, 295, 296, 297, 298, 299, 300, 301, 290, 289, 305, 306, 307, 308, 309, 302, 303, 304] G G2 ∧ G2.length = G.length ∧ ab_slots G2 = ab_slots G ∧ cc o G2 80 280 (ab_ob 12 (mof m_thrown m_taped m_length m_out w2 g2 s2 r2 n2 a2 fl2 f2 p2 nu2 d2 v2 nt2 le2 mo2 m_slot m_work m_got m_rowMany m_charAt m_charWide m_trail m_isMatch m_matchGroups m_allFrom m_allBefore m_founds m_pieces m_writtenMany m_templateWide m_tooMuch)) ∧ cc o G2 87 287 (za 9000 LO2) ∧ cc o G2 88 288 (za 9000 HI2) ∧ cc o G2 93 293 (zb 1200 MK2) ∧ cc o G2 91 291 (za 24000 RL2) ∧ cc o G2 92 292 (za 24000 RH2) ∧ cc o G2 110 310 (za 120 NS2) ∧ cc o G2 111 311 (za 10 NM2) ∧ trI o G2 0 n2 s2 (d2 + 1) (-1) 0 0 fr2 rp2 ls2 0 SV2 FS2 ro2 vv2 mnI RL2 RH2 r2 0 0 ∧ (f2 = 0 ∧ p2 = m_place ∧ m_at < a2 ∧ a2 ≤ m_taped ∧ 0 ≤ n2 ∧ n2 + 2 * d2 ≤ 2 * a2 ∧ 0 ≤ s2 ∧ s2 ≤ a2 ∧ 0 ≤ r2 ∧ r2 ≤ 12 * a2 ∧ 0 ≤ d2 ∧ d2 ≤ 30 ∧ 0 ≤ nu2 ∧ nu2 ≤ 9 ∧ -2147483648 ≤ fl2 ∧ fl2 ≤ 2147483647 ∧ -2147483648 ≤ v2 ∧ v2 ≤ 2147483647) ∧ (rgs MK2 1200 0 1) ∧ (rgs RL2 24000 0 1114111) ∧ (rgs RH2 24000 0 1114111) ∧ (rgs NS2 120 0 255) ∧ (rgs NM2 10 0 12) ∧ (0 ≤ rp2 ∧ rp2 ≤ 1) ∧ (nmJ NS2 NM2 A_tape na2 nl2 nu2) ∧ (stp A_tape m_taped (m_at, m_flags, m_numbered, na, nl, ((a1_, b1_, c1_, d1_, e1_) :: t1_), rp, ls) (a2, fl2, nu2, na2, nl2, fr2, rp2, ls2)) ∧ (stS A_tape m_taped (m_at, m_flags, m_numbered, na, nl, ((a1_, b1_, c1_, d1_, e1_) :: t1_), rp, ls) (((ao1_, ro1_) :: ts1_), ro, vv) (a2, fl2, nu2, na2, nl2, fr2, rp2, ls2) (FS2, ro2, vv2))) ∨ (∃ a2 : Int, ∃ v2 : Int, ∃ nt2 : Int, ∃ w2 : Int, ∃ g2 : Int, ∃ s2 : Int, ∃ r2 : Int, ∃ n2 : Int, ∃ fl2 : Int, ∃ nu2 : Int, ∃ d2 : Int, ∃ le2 : Int, ∃ mo2 : Int, ∃ f2 : Int, ∃ p2 : Int, ∃ LO2 : Int → Int, ∃ HI2 : Int → Int, ∃ MK2 : Int → Int, ∃ RL2 : Int → Int, ∃ RH2 : Int → Int, ∃ NS2 : Int → Int, ∃ NM2 : Int → Int, ∃ fr2 : List Fr, ∃ rp2 : Int, ∃ ls2 : Int, ∃ SV2 : Int → Int → Prop, ∃ FS2 : List Fs, ∃ ro2 : Sn, ∃ vv2 : Sn, oc = .returned none ∧ fx o o [280, 287, 288, 293, 291, 292, 310, 311, 294, 295, 296, 297, 298, 299, 300, 301, 290, 289, 305, 306, 307, 308, 309, 302, 303, 304] G G2 ∧ G2.length = G.length ∧ ab_slots G2 = ab_slots G ∧ cc o G2 80 280 (ab_ob 12 (mof m_thrown m_taped m_length m_out w2 g2 s2 r2 n2 a2 fl2 f2 p2 nu2 d2 v2 nt2 le2 mo2 m_slot m_work m_got m_rowMany m_charAt m_charWide m_trail m_isMatch m_matchGroups m_allFrom m_allBefore m_founds m_pieces m_writtenMany m_templateWide m_tooMuch)) ∧ cc o G2 87 287 (za 9000 LO2) ∧ cc o G2 88 288 (za 9000 HI2) ∧ cc o G2 93 293 (zb 1200 MK2) ∧ cc o G2 91 291 (za 24000 RL2) ∧ cc o G2 92 292 (za 24000 RH2) ∧ cc o G2 110 310 (za 120 NS2) ∧ cc o G2 111 311 (za 10 NM2) ∧ trI o G2 0 n2 s2 (d2 + 1) (-1) 0 0 fr2 rp2 ls2 0 SV2 FS2 ro2 vv2 mnI RL2 RH2 r2 0 0 ∧ (1 ≤ f2 ∧ f2 ≤ 14 ∧ 0 ≤ a2 ∧ a2 ≤ 4000 ∧ 0 ≤ n2 ∧ n2 ≤ 4200 ∧ 0 ≤ s2 ∧ s2 ≤ 2100 ∧ 0 ≤ r2 ∧ r2 ≤ 24000 ∧ 0 ≤ d2 ∧ d2 ≤ 30 ∧ 0 ≤ nu2 ∧ nu2 ≤ 9 ∧ -2147483648 ≤ fl2 ∧ fl2 ≤ 2147483647 ∧ -2147483648 ≤ v2 ∧ v2 ≤ 2147483647) ∧ (rgs MK2 1200 0 1) ∧ (rgs RL2 24000 0 1114111) ∧ (rgs RH2 24000 0 1114111) ∧ (rgs NS2 120 0 255) ∧ (rgs NM2 10 0 12) ∧ (stF A_tape m_taped (m_at, m_flags, m_numbered, na, nl, ((a1_, b1_, c1_, d1_, e1_) :: t1_), rp, ls) f2 p2))) := by
  refine ab_F_of (by decide +kernel) (Nat.le_of_ble_eq_true rfl) ?_
  obtain ⟨Q, hQ⟩ : ∃ z : Outcome → ab_G → Prop, z = (fun oc G2 => (∃ a2 : Int, ∃ v2 : Int, ∃ nt2 : Int, ∃ w2 : Int, ∃ g2 : Int, ∃ s2 : Int, ∃ r2 : Int, ∃ n2 : Int, ∃ fl2 : Int, ∃ nu2 : Int, ∃ d2 : Int, ∃ le2 : Int, ∃ mo2 : Int, ∃ f2 : Int, ∃ p2 : Int, ∃ LO2 : Int → Int, ∃ HI2 : Int → Int, ∃ MK2 : Int → Int, ∃ RL2 : Int → Int, ∃ RH2 : Int → Int, ∃ NS2 : Int → Int, ∃ NM2 : Int → Int, ∃ fr2 : List Fr, ∃ rp2 : Int, ∃ ls2 : Int, ∃ SV2 : Int → Int → Prop, ∃ FS2 : List Fs, ∃ ro2 : Sn, ∃ vv2 : Sn, ∃ na2 : Int → Int, ∃ nl2 : Int → Int, oc = .returned none ∧ fx o o [280, 287, 288, 293, 291, 292, 310, 311, 294, 295, 296, 297, 298, 299, 300, 301, 290, 289, 305, 306, 307, 308, 309, 302, 303, 304] G G2 ∧ G2.length = G.length ∧ ab_slots G2 = ab_slots G ∧ cc o G2 80 280 (ab_ob 12 (mof m_thrown m_taped m_length m_out w2 g2 s2 r2 n2 a2 fl2 f2 p2 nu2 d2 v2 nt2 le2 mo2 m_slot m_work m_got m_rowMany m_charAt m_charWide m_trail m_isMatch m_matchGroups m_allFrom m_allBefore m_founds m_pieces m_writtenMany m_templateWide m_tooMuch)) ∧ cc o G2 87 287 (za 9000 LO2) ∧ cc o G2 88 288 (za 9000 HI2) ∧ cc o G2 93 293 (zb 1200 MK2) ∧ cc o G2 91 291 (za 24000 RL2) ∧ cc o G2 92 292 (za 24000 RH2) ∧ cc o G2 110 310 (za 120 NS2) ∧ cc o G2 111 311 (za 10 NM2) ∧ trI o G2 0 n2 s2 (d2 + 1) (-1) 0 0 fr2 rp2 ls2 0 SV2 FS2 ro2 vv2 mnI RL2 RH2 r2 0 0 ∧ (f2 = 0 ∧ p2 = m_place ∧ m_at < a2 ∧ a2 ≤ m_taped ∧ 0 ≤ n2 ∧ n2 + 2 * d2 ≤ 2 * a2 ∧ 0 ≤ s2 ∧ s2 ≤ a2 ∧ 0 ≤ r2 ∧ r2 ≤ 12 * a2 ∧ 0 ≤ d2 ∧ d2 ≤ 30 ∧ 0 ≤ nu2 ∧ nu2 ≤ 9 ∧ -2147483648 ≤ fl2 ∧ fl2 ≤ 2147483647 ∧ -2147483648 ≤ v2 ∧ v2 ≤ 2147483647) ∧ (rgs MK2 1200 0 1) ∧ (rgs RL2 24000 0 1114111) ∧ (rgs RH2 24000 0 1114111) ∧ (rgs NS2 120 0 255) ∧ (rgs NM2 10 0 12) ∧ (0 ≤ rp2 ∧ rp2 ≤ 1) ∧ (nmJ NS2 NM2 A_tape na2 nl2 nu2) ∧ (stp A_tape m_taped (m_at, m_flags, m_numbered, na, nl, ((a1_, b1_, c1_, d1_, e1_) :: t1_), rp, ls) (a2, fl2, nu2, na2, nl2, fr2, rp2, ls2)) ∧ (stS A_tape m_taped (m_at, m_flags, m_numbered, na, nl, ((a1_, b1_, c1_, d1_, e1_) :: t1_), rp, ls) (((ao1_, ro1_) :: ts1_), ro, vv) (a2, fl2, nu2, na2, nl2, fr2, rp2, ls2) (FS2, ro2, vv2))) ∨ (∃ a2 : Int, ∃ v2 : Int, ∃ nt2 : Int, ∃ w2 : Int, ∃ g2 : Int, ∃ s2 : Int, ∃ r2 : Int, ∃ n2 : Int, ∃ fl2 : Int, ∃ nu2 : Int, ∃ d2 : Int, ∃ le2 : Int, ∃ mo2 : Int, ∃ f2 : Int, ∃ p2 : Int, ∃ LO2 : Int → Int, ∃ HI2 : Int → Int, ∃ MK2 : Int → Int, ∃ RL2 : Int → Int, ∃ RH2 : Int → Int, ∃ NS2 : Int → Int, ∃ NM2 : Int → Int, ∃ fr2 : List Fr, ∃ rp2 : Int, ∃ ls2 : Int, ∃ SV2 : Int → Int → Prop, ∃ FS2 : List Fs, ∃ ro2 : Sn, ∃ vv2 : Sn, oc = .returned none ∧ fx o o [280, 287, 288, 293, 291, 292, 310, 311, 294, 295, 296, 297, 298, 299, 300, 301, 290, 289, 305, 306, 307, 308, 309, 302, 303, 304] G G2 ∧ G2.length = G.length ∧ ab_slots G2 = ab_slots G ∧ cc o G2 80 280 (ab_ob 12 (mof m_thrown m_taped m_length m_out w2 g2 s2 r2 n2 a2 fl2 f2 p2 nu2 d2 v2 nt2 le2 mo2 m_slot m_work m_got m_rowMany m_charAt m_charWide m_trail m_isMatch m_matchGroups m_allFrom m_allBefore m_founds m_pieces m_writtenMany m_templateWide m_tooMuch)) ∧ cc o G2 87 287 (za 9000 LO2) ∧ cc o G2 88 288 (za 9000 HI2) ∧ cc o G2 93 293 (zb 1200 MK2) ∧ cc o G2 91 291 (za 24000 RL2) ∧ cc o G2 92 292 (za 24000 RH2) ∧ cc o G2 110 310 (za 120 NS2) ∧ cc o G2 111 311 (za 10 NM2) ∧ trI o G2 0 n2 s2 (d2 + 1) (-1) 0 0 fr2 rp2 ls2 0 SV2 FS2 ro2 vv2 mnI RL2 RH2 r2 0 0 ∧ (1 ≤ f2 ∧ f2 ≤ 14 ∧ 0 ≤ a2 ∧ a2 ≤ 4000 ∧ 0 ≤ n2 ∧ n2 ≤ 4200 ∧ 0 ≤ s2 ∧ s2 ≤ 2100 ∧ 0 ≤ r2 ∧ r2 ≤ 24000 ∧ 0 ≤ d2 ∧ d2 ≤ 30 ∧ 0 ≤ nu2 ∧ nu2 ≤ 9 ∧ -2147483648 ≤ fl2 ∧ fl2 ≤ 2147483647 ∧ -2147483648 ≤ v2 ∧ v2 ≤ 2147483647) ∧ (rgs MK2 1200 0 1) ∧ (rgs RL2 24000 0 1114111) ∧ (rgs RH2 24000 0 1114111) ∧ (rgs NS2 120 0 255) ∧ (rgs NM2 10 0 12) ∧ (stF A_tape m_taped (m_at, m_flags, m_numbered, na, nl, ((a1_, b1_, c1_, d1_, e1_) :: t1_), rp, ls) f2 p2))) := ⟨_, rfl⟩
  rw [← hQ]
  change ab_W X (ab_pl y_MO_readName b_MO_readName 7 none) d G 0 [some (vR 80), some (vz wh), none, none, none, none, none] [] Q
  have hfr : fx o o [280, 287, 288, 293, 291, 292, 310, 311, 294, 295, 296, 297, 298, 299, 300, 301, 290, 289, 305, 306, 307, 308, 309, 302, 303, 304] G G := fx.rf
  have hlen : G.length = G.length := rfl
  have hsl : ab_slots G = ab_slots G := rfl
  obtain ⟨K, O, Fi, Be, Le, Mo, Z, LZ, SM, SA, QF, QL, AF, AL, SD, OA, OF, ON, h94, h95, h96, h97, h98, h99, h100, h101, h90, h89, h105, h106, h107, h108, h109, h102, h103, h104, jk, jo, jfi, jbe, jle, jmo, jz, jlz, jsm, jsa, jqf, jql, jaf, jal, jsd, joa, jof, jon, jt, cnd, cre, crs, crz, ck5, ck6, ck7, jss, jsv⟩ := ptrI_0
  have hln_ := jt.j.len
  have ptrI_0 : trI o G 0 m_nodes m_sets (m_depth + 1) (-1) 0 0 ((a1_, b1_, c1_, d1_, e1_) :: t1_) rp ls 0 SV ((ao1_, ro1_) :: ts1_) ro vv mnI RL RH m_ranges 0 0 := ⟨K, O, Fi, Be, Le, Mo, Z, LZ, SM, SA, QF, QL, AF, AL, SD, OA, OF, ON, h94, h95, h96, h97, h98, h99, h100, h101, h90, h89, h105, h106, h107, h108, h109, h102, h103, h104, jk, jo, jfi, jbe, jle, jmo, jz, jlz, jsm, jsa, jqf, jql, jaf, jal, jsd, joa, jof, jon, jt, (by omega), (fun h => absurd h (by decide)), (fun h => absurd h (by decide)), (fun h => absurd h (by decide)), (fun h => absurd h (by decide)), (fun h => absurd h (by decide)), (fun h => absurd h (by decide)), jss, jsv⟩
  have hfo_ : m_at + 4 = m_at + 4 := rfl
  refine ab_aload_n d_MO_readName_0 rfl ?_
  refine ab_getf (fs := mof m_thrown m_taped m_length m_out m_wide m_gathered m_sets m_ranges m_nodes m_at m_flags m_fault m_place m_numbered m_depth m_value m_isNot m_least0 m_most0 m_slot m_work m_got m_rowMany m_charAt m_charWide m_trail m_isMatch m_matchGroups m_allFrom m_allBefore m_founds m_pieces m_writtenMany m_templateWide m_tooMuch) f_MO_279 d_MO_readName_1 h80.2.2 rfl ?_
  refine zz_iconst d_MO_readName_4 ?_
  refine zz_iadd d_MO_readName_5 ?_
  refine ab_istore_n d_MO_readName_6 (Nat.le_of_ble_eq_true rfl) (Nat.le_of_ble_eq_true rfl) rfl ?_
  change ab_W _ _ _ G 7 [some (vR 80), some (vz wh), some (vz (m_at + 4)), none, none, none, none] [] _
  refine zz_iconst d_MO_readName_7 ?_
  refine ab_istore_n d_MO_readName_8 (Nat.le_of_ble_eq_true rfl) (Nat.le_of_ble_eq_true rfl) rfl ?_
  change ab_W _ _ _ G 9 [some (vR 80), some (vz wh), some (vz (m_at + 4)), some (vz 0), none, none, none] [] _
  refine y_MO_readName_9 (m_thrown := m_thrown) (m_taped := m_taped) (m_length := m_length) (m_out := m_out) (m_wide := m_wide) (m_gathered := m_gathered) (m_sets := m_sets) (m_ranges := m_ranges) (m_nodes := m_nodes) (m_at := m_at) (m_flags := m_flags) (m_fault := m_fault) (m_place := m_place) (m_numbered := m_numbered) (m_depth := m_depth) (m_value := m_value) (m_isNot := m_isNot) (m_least0 := m_least0) (m_most0 := m_most0) (m_slot := m_slot) (m_work := m_work) (m_got := m_got) (m_rowMany := m_rowMany) (m_charAt := m_charAt) (m_charWide := m_charWide) (m_trail := m_trail) (m_isMatch := m_isMatch) (m_matchGroups := m_matchGroups) (m_allFrom := m_allFrom) (m_allBefore := m_allBefore) (m_founds := m_founds) (m_pieces := m_pieces) (m_writtenMany := m_writtenMany) (m_templateWide := m_templateWide) (m_tooMuch := m_tooMuch) (A_tape := A_tape) (wh := wh) (fo := (m_at + 4)) (G0 := G) (n := 0) (by omega) jtp (by omega) (by omega) (Int.toNat (13 - 0) + 1) h80 h84 (by omega) wlI_0 fx.rf rfl rfl (by omega) (fun G1 n22 hq3 hq4 hfk hlk hsk => ?_)
  · have h80 := hfk.get h80 (by decide)
    have h84 := hfk.get h84 (by decide)
    have h87 := hfk.get h87 (by decide)
    have h88 := hfk.get h88 (by decide)
    have h93 := hfk.get h93 (by decide)
    have h81 := hfk.get h81 (by decide)
    have h82 := hfk.get h82 (by decide)
    have h91 := hfk.get h91 (by decide)
    have h92 := hfk.get h92 (by decide)
    have h110 := hfk.get h110 (by decide)
    have h111 := hfk.get h111 (by decide)
    have ptrI_0 := trI.fr hfk ptrI_0 (by decide) (by decide) (by decide) (by decide) (by decide) (by decide) (by decide) (by decide) (by decide) (by decide) (by decide) (by decide) (by decide) (by decide) (by decide) (by decide) (by decide) (by decide)
    have hfr := hfr.tr hfk (by decide)
    have hlen := hlk.trans hlen
    have hsl := hsk.trans hsl
    change ab_W _ _ _ G1 44 [some (vR 80), some (vz wh), some (vz (m_at + 4)), some (vz n22), none, none, none] [] _
    refine ab_aload_n d_MO_readName_44 rfl ?_
    refine zz_iconst d_MO_readName_45 ?_
    refine ab_callV (d' := d - 1) (as := [vz 3]) (st := []) (r := _) (z_MO_here (o := o) (m_thrown := m_thrown) (m_taped := m_taped) (m_length := m_length) (m_out := m_out) (m_wide := m_wide) (m_gathered := m_gathered) (m_sets := m_sets) (m_ranges := m_ranges) (m_nodes := m_nodes) (m_at := m_at) (m_flags := m_flags) (m_fault := m_fault) (m_place := m_place) (m_numbered := m_numbered) (m_depth := m_depth) (m_value := m_value) (m_isNot := m_isNot) (m_least0 := m_least0) (m_most0 := m_most0) (m_slot := m_slot) (m_work := m_work) (m_got := m_got) (m_rowMany := m_rowMany) (m_charAt := m_charAt) (m_charWide := m_charWide) (m_trail := m_trail) (m_isMatch := m_isMatch) (m_matchGroups := m_matchGroups) (m_allFrom := m_allFrom) (m_allBefore := m_allBefore) (m_founds := m_founds) (m_pieces := m_pieces) (m_writtenMany := m_writtenMany) (m_templateWide := m_templateWide) (m_tooMuch := m_tooMuch) (A_tape := A_tape) (k := 3) (qh := (m_at + 3)) h80 h84 (by omega) (by omega) jtp (by omega) (by omega)) (fun oc G2 h => by rcases h with ⟨h, _⟩ | ⟨h, _⟩ <;> exact ⟨_, h⟩) (by omega) m_MO_here ml_MO_297 im_MO_here se_MO_here c_MO h80.2.2 (Nat.le_of_ble_eq_true rfl) d_MO_readName_46 rfl ?_
    intro v G5 hq
    rcases hq with ⟨hv, hGe, hq6⟩ | ⟨hv, hGe, hq7, hq8⟩
    · cases hv
      rw [hGe]
      change ab_W _ _ _ G1 49 [some (vR 80), some (vz wh), some (vz (m_at + 4)), some (vz n22), none, none, none] [vz (tpk A_tape m_taped (m_at + 3))] _
      refine zz_bipush d_MO_readName_49 (by decide) ?_
      refine zz_icmp_ne (tgt := 77) d_MO_readName_51 (by decide) (by omega) (by decide) (fun c9 => ?_) (fun c9 => ?_)
      · refine ab_aload_n d_MO_readName_77 rfl ?_
        refine zz_bipush d_MO_readName_78 (by decide) ?_
        refine ab_iload_n d_MO_readName_80 rfl ?_
        refine ab_callV (d' := d - 1) (as := [vz 10, vz wh]) (st := []) (r := _) (z_MO_wrong (o := o) (m_thrown := m_thrown) (m_taped := m_taped) (m_length := m_length) (m_out := m_out) (m_wide := m_wide) (m_gathered := m_gathered) (m_sets := m_sets) (m_ranges := m_ranges) (m_nodes := m_nodes) (m_at := m_at) (m_flags := m_flags) (m_fault := m_fault) (m_place := m_place) (m_numbered := m_numbered) (m_depth := m_depth) (m_value := m_value) (m_isNot := m_isNot) (m_least0 := m_least0) (m_most0 := m_most0) (m_slot := m_slot) (m_work := m_work) (m_got := m_got) (m_rowMany := m_rowMany) (m_charAt := m_charAt) (m_charWide := m_charWide) (m_trail := m_trail) (m_isMatch := m_isMatch) (m_matchGroups := m_matchGroups) (m_allFrom := m_allFrom) (m_allBefore := m_allBefore) (m_founds := m_founds) (m_pieces := m_pieces) (m_writtenMany := m_writtenMany) (m_templateWide := m_templateWide) (m_tooMuch := m_tooMuch) (x := 10) (y := wh) h80 (by omega) (by omega)) (fun oc G2 h => by rcases h with ⟨h, _⟩ | ⟨h, _⟩ <;> exact ⟨_, h⟩) (by omega) m_MO_wrong ml_MO_304 im_MO_wrong se_MO_wrong c_MO h80.2.2 (Nat.le_of_ble_eq_true rfl) d_MO_readName_81 rfl ?_
        intro v G10 hq
        rcases hq with ⟨hv, hfk, hlk, hsk, hN80, hq11⟩ | ⟨hv, hGe, hq12⟩
        · cases hv
          have h84 := hfk.get h84 (by decide)
          have h87 := hfk.get h87 (by decide)
          have h88 := hfk.get h88 (by decide)
          have h93 := hfk.get h93 (by decide)
          have h81 := hfk.get h81 (by decide)
          have h82 := hfk.get h82 (by decide)
          have h91 := hfk.get h91 (by decide)
          have h92 := hfk.get h92 (by decide)
          have h110 := hfk.get h110 (by decide)
          have h111 := hfk.get h111 (by decide)
          have ptrI_0 := trI.fr hfk ptrI_0 (by decide) (by decide) (by decide) (by decide) (by decide) (by decide) (by decide) (by decide) (by decide) (by decide) (by decide) (by decide) (by decide) (by decide) (by decide) (by decide) (by decide) (by decide)
          have hfr := hfr.tr hfk (by decide)
          have hlen := hlk.trans hlen
          have hsl := hsk.trans hsl
          have h80 := hN80
          change ab_W _ _ _ G10 84 [some (vR 80), some (vz wh), some (vz (m_at + 4)), some (vz n22), none, none, none] [] _
          refine ab_vret rfl d_MO_readName_84 ?_
          rw [hQ]; exact (Or.inr ⟨_, _, _, _, _, _, _, _, _, _, _, _, _, _, _, _, _, _, _, _, _, _, ((a1_, b1_, c1_, d1_, e1_) :: t1_), rp, ls, SV, ((ao1_, ro1_) :: ts1_), ro, vv, rfl, hfr, hlen, hsl, h80, h87, h88, h93, h91, h92, h110, h111, ptrI_0, (by omega), (by first | exact jmk | exact rgs_w jmk (by omega)), (by first | exact jrl | exact rgs_w jrl (by omega)), (by first | exact jrh | exact rgs_w jrh (by omega)), (by first | exact jns | exact rgs_w jns (by omega)), (by first | exact jnm | exact rgs_w jnm (by omega)), (by rw [show wh = m_at by omega]; exact sf_o (by omega) (of_3 (by omega) (by omega) (by omega) (by omega)))⟩)
        · cases hv
          rw [hGe]
          change ab_W _ _ _ G1 84 [some (vR 80), some (vz wh), some (vz (m_at + 4)), some (vz n22), none, none, none] [] _
          exfalso; omega
      · refine ab_iload_n d_MO_readName_54 rfl ?_
        refine zz_iconst d_MO_readName_55 ?_
        refine zz_icmp_lt (tgt := 77) d_MO_readName_56 (by decide) (by omega) (by decide) (fun c13 => ?_) (fun c13 => ?_)
        · refine ab_aload_n d_MO_readName_77 rfl ?_
          refine zz_bipush d_MO_readName_78 (by decide) ?_
          refine ab_iload_n d_MO_readName_80 rfl ?_
          refine ab_callV (d' := d - 1) (as := [vz 10, vz wh]) (st := []) (r := _) (z_MO_wrong (o := o) (m_thrown := m_thrown) (m_taped := m_taped) (m_length := m_length) (m_out := m_out) (m_wide := m_wide) (m_gathered := m_gathered) (m_sets := m_sets) (m_ranges := m_ranges) (m_nodes := m_nodes) (m_at := m_at) (m_flags := m_flags) (m_fault := m_fault) (m_place := m_place) (m_numbered := m_numbered) (m_depth := m_depth) (m_value := m_value) (m_isNot := m_isNot) (m_least0 := m_least0) (m_most0 := m_most0) (m_slot := m_slot) (m_work := m_work) (m_got := m_got) (m_rowMany := m_rowMany) (m_charAt := m_charAt) (m_charWide := m_charWide) (m_trail := m_trail) (m_isMatch := m_isMatch) (m_matchGroups := m_matchGroups) (m_allFrom := m_allFrom) (m_allBefore := m_allBefore) (m_founds := m_founds) (m_pieces := m_pieces) (m_writtenMany := m_writtenMany) (m_templateWide := m_templateWide) (m_tooMuch := m_tooMuch) (x := 10) (y := wh) h80 (by omega) (by omega)) (fun oc G2 h => by rcases h with ⟨h, _⟩ | ⟨h, _⟩ <;> exact ⟨_, h⟩) (by omega) m_MO_wrong ml_MO_304 im_MO_wrong se_MO_wrong c_MO h80.2.2 (Nat.le_of_ble_eq_true rfl) d_MO_readName_81 rfl ?_
          intro v G14 hq
          rcases hq with ⟨hv, hfk, hlk, hsk, hN80, hq15⟩ | ⟨hv, hGe, hq16⟩
          · cases hv
            have h84 := hfk.get h84 (by decide)
            have h87 := hfk.get h87 (by decide)
            have h88 := hfk.get h88 (by decide)
            have h93 := hfk.get h93 (by decide)
            have h81 := hfk.get h81 (by decide)
            have h82 := hfk.get h82 (by decide)
            have h91 := hfk.get h91 (by decide)
            have h92 := hfk.get h92 (by decide)
            have h110 := hfk.get h110 (by decide)
            have h111 := hfk.get h111 (by decide)
            have ptrI_0 := trI.fr hfk ptrI_0 (by decide) (by decide) (by decide) (by decide) (by decide) (by decide) (by decide) (by decide) (by decide) (by decide) (by decide) (by decide) (by decide) (by decide) (by decide) (by decide) (by decide) (by decide)
            have hfr := hfr.tr hfk (by decide)
            have hlen := hlk.trans hlen
            have hsl := hsk.trans hsl
            have h80 := hN80
            change ab_W _ _ _ G14 84 [some (vR 80), some (vz wh), some (vz (m_at + 4)), some (vz n22), none, none, none] [] _
            refine ab_vret rfl d_MO_readName_84 ?_
            rw [hQ]; exact (Or.inr ⟨_, _, _, _, _, _, _, _, _, _, _, _, _, _, _, _, _, _, _, _, _, _, ((a1_, b1_, c1_, d1_, e1_) :: t1_), rp, ls, SV, ((ao1_, ro1_) :: ts1_), ro, vv, rfl, hfr, hlen, hsl, h80, h87, h88, h93, h91, h92, h110, h111, ptrI_0, (by omega), (by first | exact jmk | exact rgs_w jmk (by omega)), (by first | exact jrl | exact rgs_w jrl (by omega)), (by first | exact jrh | exact rgs_w jrh (by omega)), (by first | exact jns | exact rgs_w jns (by omega)), (by first | exact jnm | exact rgs_w jnm (by omega)), (by rw [show wh = m_at by omega]; exact sf_o (by omega) (of_h (by omega) (by omega) (by omega) (nm_n hq4 (by rw [show m_at + 4 + n22 = m_at + n22 + 4 by omega]; omega))))⟩)
          · cases hv
            rw [hGe]
            change ab_W _ _ _ G1 84 [some (vR 80), some (vz wh), some (vz (m_at + 4)), some (vz n22), none, none, none] [] _
            exfalso; omega
        · refine ab_iload_n d_MO_readName_59 rfl ?_
          refine zz_bipush d_MO_readName_60 (by decide) ?_
          refine zz_icmp_gt (tgt := 77) d_MO_readName_62 (by decide) (by omega) (by decide) (fun c17 => ?_) (fun c17 => ?_)
          · refine ab_aload_n d_MO_readName_77 rfl ?_
            refine zz_bipush d_MO_readName_78 (by decide) ?_
            refine ab_iload_n d_MO_readName_80 rfl ?_
            refine ab_callV (d' := d - 1) (as := [vz 10, vz wh]) (st := []) (r := _) (z_MO_wrong (o := o) (m_thrown := m_thrown) (m_taped := m_taped) (m_length := m_length) (m_out := m_out) (m_wide := m_wide) (m_gathered := m_gathered) (m_sets := m_sets) (m_ranges := m_ranges) (m_nodes := m_nodes) (m_at := m_at) (m_flags := m_flags) (m_fault := m_fault) (m_place := m_place) (m_numbered := m_numbered) (m_depth := m_depth) (m_value := m_value) (m_isNot := m_isNot) (m_least0 := m_least0) (m_most0 := m_most0) (m_slot := m_slot) (m_work := m_work) (m_got := m_got) (m_rowMany := m_rowMany) (m_charAt := m_charAt) (m_charWide := m_charWide) (m_trail := m_trail) (m_isMatch := m_isMatch) (m_matchGroups := m_matchGroups) (m_allFrom := m_allFrom) (m_allBefore := m_allBefore) (m_founds := m_founds) (m_pieces := m_pieces) (m_writtenMany := m_writtenMany) (m_templateWide := m_templateWide) (m_tooMuch := m_tooMuch) (x := 10) (y := wh) h80 (by omega) (by omega)) (fun oc G2 h => by rcases h with ⟨h, _⟩ | ⟨h, _⟩ <;> exact ⟨_, h⟩) (by omega) m_MO_wrong ml_MO_304 im_MO_wrong se_MO_wrong c_MO h80.2.2 (Nat.le_of_ble_eq_true rfl) d_MO_readName_81 rfl ?_
            intro v G18 hq
            rcases hq with ⟨hv, hfk, hlk, hsk, hN80, hq19⟩ | ⟨hv, hGe, hq20⟩
            · cases hv
              have h84 := hfk.get h84 (by decide)
              have h87 := hfk.get h87 (by decide)
              have h88 := hfk.get h88 (by decide)
              have h93 := hfk.get h93 (by decide)
              have h81 := hfk.get h81 (by decide)
              have h82 := hfk.get h82 (by decide)
              have h91 := hfk.get h91 (by decide)
              have h92 := hfk.get h92 (by decide)
              have h110 := hfk.get h110 (by decide)
              have h111 := hfk.get h111 (by decide)
              have ptrI_0 := trI.fr hfk ptrI_0 (by decide) (by decide) (by decide) (by decide) (by decide) (by decide) (by decide) (by decide) (by decide) (by decide) (by decide) (by decide) (by decide) (by decide) (by decide) (by decide) (by decide) (by decide)
              have hfr := hfr.tr hfk (by decide)
              have hlen := hlk.trans hlen
              have hsl := hsk.trans hsl
              have h80 := hN80
              change ab_W _ _ _ G18 84 [some (vR 80), some (vz wh), some (vz (m_at + 4)), some (vz n22), none, none, none] [] _
              refine ab_vret rfl d_MO_readName_84 ?_
              rw [hQ]; exact (Or.inr ⟨_, _, _, _, _, _, _, _, _, _, _, _, _, _, _, _, _, _, _, _, _, _, ((a1_, b1_, c1_, d1_, e1_) :: t1_), rp, ls, SV, ((ao1_, ro1_) :: ts1_), ro, vv, rfl, hfr, hlen, hsl, h80, h87, h88, h93, h91, h92, h110, h111, ptrI_0, (by omega), (by first | exact jmk | exact rgs_w jmk (by omega)), (by first | exact jrl | exact rgs_w jrl (by omega)), (by first | exact jrh | exact rgs_w jrh (by omega)), (by first | exact jns | exact rgs_w jns (by omega)), (by first | exact jnm | exact rgs_w jnm (by omega)), (by rw [show wh = m_at by omega]; exact sf_o (by omega) (of_h (by omega) (by omega) (by omega) (nm_n hq4 (by rw [show m_at + 4 + n22 = m_at + n22 + 4 by omega]; omega))))⟩)
            · cases hv
              rw [hGe]
              change ab_W _ _ _ G1 84 [some (vR 80), some (vz wh), some (vz (m_at + 4)), some (vz n22), none, none, none] [] _
              exfalso; omega
          · refine ab_aload_n d_MO_readName_65 rfl ?_
            refine zz_iconst d_MO_readName_66 ?_
            refine ab_iload_n d_MO_readName_67 rfl ?_
            refine zz_iadd d_MO_readName_68 ?_
            refine ab_callV (d' := d - 1) (as := [vz (4 + n22)]) (st := []) (r := _) (z_MO_here (o := o) (m_thrown := m_thrown) (m_taped := m_taped) (m_length := m_length) (m_out := m_out) (m_wide := m_wide) (m_gathered := m_gathered) (m_sets := m_sets) (m_ranges := m_ranges) (m_nodes := m_nodes) (m_at := m_at) (m_flags := m_flags) (m_fault := m_fault) (m_place := m_place) (m_numbered := m_numbered) (m_depth := m_depth) (m_value := m_value) (m_isNot := m_isNot) (m_least0 := m_least0) (m_most0 := m_most0) (m_slot := m_slot) (m_work := m_work) (m_got := m_got) (m_rowMany := m_rowMany) (m_charAt := m_charAt) (m_charWide := m_charWide) (m_trail := m_trail) (m_isMatch := m_isMatch) (m_matchGroups := m_matchGroups) (m_allFrom := m_allFrom) (m_allBefore := m_allBefore) (m_founds := m_founds) (m_pieces := m_pieces) (m_writtenMany := m_writtenMany) (m_templateWide := m_templateWide) (m_tooMuch := m_tooMuch) (A_tape := A_tape) (k := (4 + n22)) (qh := (m_at + n22 + 4)) h80 h84 (by omega) (by omega) jtp (by omega) (by omega)) (fun oc G2 h => by rcases h with ⟨h, _⟩ | ⟨h, _⟩ <;> exact ⟨_, h⟩) (by omega) m_MO_here ml_MO_297 im_MO_here se_MO_here c_MO h80.2.2 (Nat.le_of_ble_eq_true rfl) d_MO_readName_69 rfl ?_
            intro v G21 hq
            rcases hq with ⟨hv, hGe, hq22⟩ | ⟨hv, hGe, hq23, hq24⟩
            · cases hv
              rw [hGe]
              change ab_W _ _ _ G1 72 [some (vR 80), some (vz wh), some (vz (m_at + 4)), some (vz n22), none, none, none] [vz (tpk A_tape m_taped (m_at + n22 + 4))] _
              refine zz_bipush d_MO_readName_72 (by decide) ?_
              refine zz_icmp_eq (tgt := 85) d_MO_readName_74 (by decide) (by omega) (by decide) (fun c25 => ?_) (fun c25 => ?_)
              · refine zz_iconst d_MO_readName_85 ?_
                refine ab_istore d_MO_readName_86 (Nat.le_of_ble_eq_true rfl) (Nat.le_of_ble_eq_true rfl) rfl ?_
                change ab_W _ _ _ G1 88 [some (vR 80), some (vz wh), some (vz (m_at + 4)), some (vz n22), some (vz 1), none, none] [] _
                refine y_MO_readName_88 (m_thrown := m_thrown) (m_taped := m_taped) (m_length := m_length) (m_out := m_out) (m_wide := m_wide) (m_gathered := m_gathered) (m_sets := m_sets) (m_ranges := m_ranges) (m_nodes := m_nodes) (m_at := m_at) (m_flags := m_flags) (m_numbered := m_numbered) (m_depth := m_depth) (m_value := m_value) (m_isNot := m_isNot) (m_least0 := m_least0) (m_most0 := m_most0) (m_slot := m_slot) (m_work := m_work) (m_got := m_got) (m_rowMany := m_rowMany) (m_charAt := m_charAt) (m_charWide := m_charWide) (m_trail := m_trail) (m_isMatch := m_isMatch) (m_matchGroups := m_matchGroups) (m_allFrom := m_allFrom) (m_allBefore := m_allBefore) (m_founds := m_founds) (m_pieces := m_pieces) (m_writtenMany := m_writtenMany) (m_templateWide := m_templateWide) (m_tooMuch := m_tooMuch) (A_tape := A_tape) (NS := NS) (NM := NM) (wh := wh) (fo := (m_at + 4)) (n := n22) (pl0 := m_place) (G0 := G1) (g := 1) (m_fault := m_fault) (m_place := m_place) (by omega) (by omega) jtp jns jnm (by omega) (by omega) jnj (by omega) (Int.toNat (10 - 1) + 1) h80 h84 h110 h111 (by omega) (Or.inl ⟨by omega, tkI_b⟩) (by omega) fx.rf rfl rfl (by omega) (fun G26 f227 p228 hN80 hq29 hq30 hq31 hfk hlk hsk => ?_)
                · have h84 := hfk.get h84 (by decide)
                  have h87 := hfk.get h87 (by decide)
                  have h88 := hfk.get h88 (by decide)
                  have h93 := hfk.get h93 (by decide)
                  have h81 := hfk.get h81 (by decide)
                  have h82 := hfk.get h82 (by decide)
                  have h91 := hfk.get h91 (by decide)
                  have h92 := hfk.get h92 (by decide)
                  have h110 := hfk.get h110 (by decide)
                  have h111 := hfk.get h111 (by decide)
                  have ptrI_0 := trI.fr hfk ptrI_0 (by decide) (by decide) (by decide) (by decide) (by decide) (by decide) (by decide) (by decide) (by decide) (by decide) (by decide) (by decide) (by decide) (by decide) (by decide) (by decide) (by decide) (by decide)
                  have hfr := hfr.tr hfk (by decide)
                  have hlen := hlk.trans hlen
                  have hsl := hsk.trans hsl
                  have h80 := hN80
                  change ab_W _ _ _ G26 192 [some (vR 80), some (vz wh), some (vz (m_at + 4)), some (vz n22), none, none, none] [] _
                  refine ab_aload_n d_MO_readName_192 rfl ?_
                  refine ab_dup d_MO_readName_193 rfl ?_
                  refine ab_getf (fs := mof m_thrown m_taped m_length m_out m_wide m_gathered m_sets m_ranges m_nodes m_at m_flags f227 p228 m_numbered m_depth m_value m_isNot m_least0 m_most0 m_slot m_work m_got m_rowMany m_charAt m_charWide m_trail m_isMatch m_matchGroups m_allFrom m_allBefore m_founds m_pieces m_writtenMany m_templateWide m_tooMuch) f_MO_279 d_MO_readName_194 h80.2.2 rfl ?_
                  refine zz_iconst d_MO_readName_197 ?_
                  refine ab_iload_n d_MO_readName_198 rfl ?_
                  refine zz_iadd d_MO_readName_199 ?_
                  refine zz_iadd d_MO_readName_200 ?_
                  refine ab_putf (fs := mof m_thrown m_taped m_length m_out m_wide m_gathered m_sets m_ranges m_nodes m_at m_flags f227 p228 m_numbered m_depth m_value m_isNot m_least0 m_most0 m_slot m_work m_got m_rowMany m_charAt m_charWide m_trail m_isMatch m_matchGroups m_allFrom m_allBefore m_founds m_pieces m_writtenMany m_templateWide m_tooMuch) f_MO_279 (Or.inl rfl) d_MO_readName_201 h80.2.2 (Nat.le_of_ble_eq_true rfl) (fun _ => ⟨rfl, rfl⟩) (h80.2.1 (by decide)) ?_
                  obtain ⟨G32, eG32⟩ : ∃ z : ab_G, z = List.set G26 80 (ab_ob 12 (mof m_thrown m_taped m_length m_out m_wide m_gathered m_sets m_ranges m_nodes (m_at + (5 + n22)) m_flags f227 p228 m_numbered m_depth m_value m_isNot m_least0 m_most0 m_slot m_work m_got m_rowMany m_charAt m_charWide m_trail m_isMatch m_matchGroups m_allFrom m_allBefore m_founds m_pieces m_writtenMany m_templateWide m_tooMuch)) := ⟨_, rfl⟩
                  have h84 := h84.keep h80 eG32 (by decide)
                  have h87 := h87.keep h80 eG32 (by decide)
                  have h88 := h88.keep h80 eG32 (by decide)
                  have h93 := h93.keep h80 eG32 (by decide)
                  have h81 := h81.keep h80 eG32 (by decide)
                  have h82 := h82.keep h80 eG32 (by decide)
                  have h91 := h91.keep h80 eG32 (by decide)
                  have h92 := h92.keep h80 eG32 (by decide)
                  have h110 := h110.keep h80 eG32 (by decide)
                  have h111 := h111.keep h80 eG32 (by decide)
                  have hst := (fx.rf (o := o) (S := [280]) (G := G26)).wr h80 eG32 (List.mem_singleton.mpr rfl)
                  have ptrI_0 := trI.fr hst ptrI_0 (by decide) (by decide) (by decide) (by decide) (by decide) (by decide) (by decide) (by decide) (by decide) (by decide) (by decide) (by decide) (by decide) (by decide) (by decide) (by decide) (by decide) (by decide)
                  have hlen := (z_len eG32).trans hlen
                  have hsl := (z_sl h80 eG32 rfl).trans hsl
                  have hfr := hfr.wr h80 eG32 (by decide)
                  have h80 := h80.kept eG32
                  change ab_W _ _ _ (List.set G26 80 (ab_ob 12 (mof m_thrown m_taped m_length m_out m_wide m_gathered m_sets m_ranges m_nodes (m_at + (5 + n22)) m_flags f227 p228 m_numbered m_depth m_value m_isNot m_least0 m_most0 m_slot m_work m_got m_rowMany m_charAt m_charWide m_trail m_isMatch m_matchGroups m_allFrom m_allBefore m_founds m_pieces m_writtenMany m_templateWide m_tooMuch))) 204 [some (vR 80), some (vz wh), some (vz (m_at + 4)), some (vz n22), none, none, none] [] _
                  rw [← eG32]
                  refine ab_aload_n d_MO_readName_204 rfl ?_
                  refine ab_getf (fs := mof m_thrown m_taped m_length m_out m_wide m_gathered m_sets m_ranges m_nodes (m_at + (5 + n22)) m_flags f227 p228 m_numbered m_depth m_value m_isNot m_least0 m_most0 m_slot m_work m_got m_rowMany m_charAt m_charWide m_trail m_isMatch m_matchGroups m_allFrom m_allBefore m_founds m_pieces m_writtenMany m_templateWide m_tooMuch) f_MO_273 d_MO_readName_205 h80.2.2 rfl ?_
                  refine zz_if_ne (tgt := 218) d_MO_readName_208 (by decide) (by omega) (fun c33 => ?_) (fun c33 => ?_)
                  · refine ab_vret rfl d_MO_readName_218 ?_
                    rw [hQ]; exact (Or.inr ⟨_, _, _, _, _, _, _, _, _, _, _, _, _, _, _, _, _, _, _, _, _, _, ((a1_, b1_, c1_, d1_, e1_) :: t1_), rp, ls, SV, ((ao1_, ro1_) :: ts1_), ro, vv, rfl, hfr, hlen, hsl, h80, h87, h88, h93, h91, h92, h110, h111, ptrI_0, (by omega), (by first | exact jmk | exact rgs_w jmk (by omega)), (by first | exact jrl | exact rgs_w jrl (by omega)), (by first | exact jrh | exact rgs_w jrh (by omega)), (by first | exact jns | exact rgs_w jns (by omega)), (by first | exact jnm | exact rgs_w jnm (by omega)), (by rcases hq30 with y | y; (exfalso; omega); (rw [y.1, y.2.1]; have t9_ : wh = m_at := (by omega); rw [t9_]; exact sf_o (by omega) (of_t (by omega) (by omega) (by omega) (nm_y hq4 (by omega) (by rw [show m_at + 4 + n22 = m_at + n22 + 4 by omega]; omega)) (by omega) (by rw [← hfo_]; exact y.2.2))))⟩)
                  · refine ab_aload_n d_MO_readName_211 rfl ?_
                    refine ab_iload_n d_MO_readName_212 rfl ?_
                    refine ab_iload_n d_MO_readName_213 rfl ?_
                    refine ab_iload_n d_MO_readName_214 rfl ?_
                    refine ab_callV (d' := d - 1) (as := [vz wh, vz (m_at + 4), vz n22]) (st := []) (r := _) (z_MO_openNumbered (o := o) (m_thrown := m_thrown) (m_taped := m_taped) (m_length := m_length) (m_out := m_out) (m_wide := m_wide) (m_gathered := m_gathered) (m_sets := m_sets) (m_ranges := m_ranges) (m_nodes := m_nodes) (m_at := (m_at + (5 + n22))) (m_flags := m_flags) (m_fault := f227) (m_place := p228) (m_numbered := m_numbered) (m_depth := m_depth) (m_value := m_value) (m_isNot := m_isNot) (m_least0 := m_least0) (m_most0 := m_most0) (m_slot := m_slot) (m_work := m_work) (m_got := m_got) (m_rowMany := m_rowMany) (m_charAt := m_charAt) (m_charWide := m_charWide) (m_trail := m_trail) (m_isMatch := m_isMatch) (m_matchGroups := m_matchGroups) (m_allFrom := m_allFrom) (m_allBefore := m_allBefore) (m_founds := m_founds) (m_pieces := m_pieces) (m_writtenMany := m_writtenMany) (m_templateWide := m_templateWide) (m_tooMuch := m_tooMuch) (A_tape := A_tape) (LO := LO) (HI := HI) (MK := MK) (RL := RL) (RH := RH) (NS := NS) (NM := NM) (rp := rp) (ls := ls) (SV := SV) (ro := ro) (vv := vv) (a1_ := a1_) (b1_ := b1_) (c1_ := c1_) (d1_ := d1_) (e1_ := e1_) (t1_ := t1_) (ao1_ := ao1_) (ro1_ := ro1_) (ts1_ := ts1_) (wh := wh) (fo := (m_at + 4)) (n := n22) (ps9 := (m_at + 4)) h80 h84 h87 h88 h93 h81 h82 h91 h92 h110 h111 ptrI_0 (by omega) (by omega) jtp jmk jrl jrh jns jnm (by omega) (by omega) (by omega) (by omega) (by omega) (by omega) jnj (Or.inr rfl) (by omega)) (fun oc G2 h => by rcases h with ⟨_, h, _⟩ | ⟨_, _, h, _⟩ <;> exact ⟨_, h⟩) (by omega) m_MO_openNumbered ml_MO_382 im_MO_openNumbered se_MO_openNumbered c_MO h80.2.2 (Nat.le_of_ble_eq_true rfl) d_MO_readName_215 rfl ?_
                    intro v G34 hq
                    rcases hq with ⟨NS235, hv, hfk, hlk, hsk, hN80, hN110, hN111, pNtrI_0, hq36, hq37, hq38⟩ | ⟨f239, p240, hv, hfk, hlk, hsk, hN80, hN110, hN111, pNtrI_0, hq41, hq42, hq43⟩
                    · cases hv
                      have h84 := hfk.get h84 (by decide)
                      have h87 := hfk.get h87 (by decide)
                      have h88 := hfk.get h88 (by decide)
                      have h93 := hfk.get h93 (by decide)
                      have h81 := hfk.get h81 (by decide)
                      have h82 := hfk.get h82 (by decide)
                      have h91 := hfk.get h91 (by decide)
                      have h92 := hfk.get h92 (by decide)
                      have ptrI_0 := pNtrI_0
                      have hfr := hfr.tr hfk (by decide)
                      have hlen := hlk.trans hlen
                      have hsl := hsk.trans hsl
                      have h80 := hN80
                      have h110 := hN110
                      have h111 := hN111
                      change ab_W _ _ _ G34 218 [some (vR 80), some (vz wh), some (vz (m_at + 4)), some (vz n22), none, none, none] [] _
                      refine ab_vret rfl d_MO_readName_218 ?_
                      rw [hQ]; exact (Or.inl ⟨_, _, _, _, _, _, _, _, _, _, _, _, _, _, _, _, _, _, _, _, _, _, ((wh, m_flags, (m_numbered + 1), 0, 0) :: ((a1_, b1_, c1_, d1_, e1_) :: t1_)), 0, 0, SV, ((none, mnI) :: ((ao1_, ro1_) :: ts1_)), mnI, mnI, (zu na (m_numbered + 1) (m_at + 4)), (zu nl (m_numbered + 1) n22), rfl, hfr, hlen, hsl, h80, h87, h88, h93, h91, h92, h110, h111, ptrI_0, (by omega), (by first | exact jmk | exact rgs_w jmk (by omega)), (by first | exact jrl | exact rgs_w jrl (by omega)), (by first | exact jrh | exact rgs_w jrh (by omega)), (by first | exact hq37 | exact rgs_w hq37 (by omega)), (by first | exact (rgs_zu jnm (by omega)) | exact rgs_w (rgs_zu jnm (by omega)) (by omega)), (by omega), (by exact hq38), (by have t9_ : wh = m_at := (by omega); rw [t9_, show (m_at + (5 + n22)) = m_at + 5 + n22 by omega]; exact sb_name (by omega) (by omega) (by omega) (by omega) (nm_y hq4 (by omega) (by rw [show m_at + 4 + n22 = m_at + n22 + 4 by omega]; omega)) (by omega) (by rcases hq30 with y | y; (rw [← hfo_]; exact y.2); (exfalso; omega)) (by have t_ := hln_; simp only [List.length_cons] at t_ ⊢; omega)), (by exact ss_grp (by omega))⟩)
                    · cases hv
                      have h84 := hfk.get h84 (by decide)
                      have h87 := hfk.get h87 (by decide)
                      have h88 := hfk.get h88 (by decide)
                      have h93 := hfk.get h93 (by decide)
                      have h81 := hfk.get h81 (by decide)
                      have h82 := hfk.get h82 (by decide)
                      have h91 := hfk.get h91 (by decide)
                      have h92 := hfk.get h92 (by decide)
                      have ptrI_0 := pNtrI_0
                      have hfr := hfr.tr hfk (by decide)
                      have hlen := hlk.trans hlen
                      have hsl := hsk.trans hsl
                      have h80 := hN80
                      have h110 := hN110
                      have h111 := hN111
                      change ab_W _ _ _ G34 218 [some (vR 80), some (vz wh), some (vz (m_at + 4)), some (vz n22), none, none, none] [] _
                      refine ab_vret rfl d_MO_readName_218 ?_
                      rw [hQ]; exact (Or.inr ⟨_, _, _, _, _, _, _, _, _, _, _, _, _, _, _, _, _, _, _, _, _, _, ((a1_, b1_, c1_, d1_, e1_) :: t1_), rp, ls, SV, ((ao1_, ro1_) :: ts1_), ro, vv, rfl, hfr, hlen, hsl, h80, h87, h88, h93, h91, h92, h110, h111, ptrI_0, (by omega), (by first | exact jmk | exact rgs_w jmk (by omega)), (by first | exact jrl | exact rgs_w jrl (by omega)), (by first | exact jrh | exact rgs_w jrh (by omega)), (by first | exact jns | exact rgs_w jns (by omega)), (by first | exact jnm | exact rgs_w jnm (by omega)), (by rw [show p240 = m_at by omega]; exact sf_o (by omega) (of_n (by omega) (by omega) (by omega) (nm_y hq4 (by omega) (by rw [show m_at + 4 + n22 = m_at + n22 + 4 by omega]; omega)) (by omega) (by rcases hq30 with y | y; (rw [← hfo_]; exact y.2); (exfalso; omega)) (by have t_ := hln_; simp only [List.length_cons] at t_ ⊢; omega)))⟩)
              · refine ab_aload_n d_MO_readName_77 rfl ?_
                refine zz_bipush d_MO_readName_78 (by decide) ?_
                refine ab_iload_n d_MO_readName_80 rfl ?_
                refine ab_callV (d' := d - 1) (as := [vz 10, vz wh]) (st := []) (r := _) (z_MO_wrong (o := o) (m_thrown := m_thrown) (m_taped := m_taped) (m_length := m_length) (m_out := m_out) (m_wide := m_wide) (m_gathered := m_gathered) (m_sets := m_sets) (m_ranges := m_ranges) (m_nodes := m_nodes) (m_at := m_at) (m_flags := m_flags) (m_fault := m_fault) (m_place := m_place) (m_numbered := m_numbered) (m_depth := m_depth) (m_value := m_value) (m_isNot := m_isNot) (m_least0 := m_least0) (m_most0 := m_most0) (m_slot := m_slot) (m_work := m_work) (m_got := m_got) (m_rowMany := m_rowMany) (m_charAt := m_charAt) (m_charWide := m_charWide) (m_trail := m_trail) (m_isMatch := m_isMatch) (m_matchGroups := m_matchGroups) (m_allFrom := m_allFrom) (m_allBefore := m_allBefore) (m_founds := m_founds) (m_pieces := m_pieces) (m_writtenMany := m_writtenMany) (m_templateWide := m_templateWide) (m_tooMuch := m_tooMuch) (x := 10) (y := wh) h80 (by omega) (by omega)) (fun oc G2 h => by rcases h with ⟨h, _⟩ | ⟨h, _⟩ <;> exact ⟨_, h⟩) (by omega) m_MO_wrong ml_MO_304 im_MO_wrong se_MO_wrong c_MO h80.2.2 (Nat.le_of_ble_eq_true rfl) d_MO_readName_81 rfl ?_
                intro v G44 hq
                rcases hq with ⟨hv, hfk, hlk, hsk, hN80, hq45⟩ | ⟨hv, hGe, hq46⟩
                · cases hv
                  have h84 := hfk.get h84 (by decide)
                  have h87 := hfk.get h87 (by decide)
                  have h88 := hfk.get h88 (by decide)
                  have h93 := hfk.get h93 (by decide)
                  have h81 := hfk.get h81 (by decide)
                  have h82 := hfk.get h82 (by decide)
                  have h91 := hfk.get h91 (by decide)
                  have h92 := hfk.get h92 (by decide)
                  have h110 := hfk.get h110 (by decide)
                  have h111 := hfk.get h111 (by decide)
                  have ptrI_0 := trI.fr hfk ptrI_0 (by decide) (by decide) (by decide) (by decide) (by decide) (by decide) (by decide) (by decide) (by decide) (by decide) (by decide) (by decide) (by decide) (by decide) (by decide) (by decide) (by decide) (by decide)
                  have hfr := hfr.tr hfk (by decide)
                  have hlen := hlk.trans hlen
                  have hsl := hsk.trans hsl
                  have h80 := hN80
                  change ab_W _ _ _ G44 84 [some (vR 80), some (vz wh), some (vz (m_at + 4)), some (vz n22), none, none, none] [] _
                  refine ab_vret rfl d_MO_readName_84 ?_
                  rw [hQ]; exact (Or.inr ⟨_, _, _, _, _, _, _, _, _, _, _, _, _, _, _, _, _, _, _, _, _, _, ((a1_, b1_, c1_, d1_, e1_) :: t1_), rp, ls, SV, ((ao1_, ro1_) :: ts1_), ro, vv, rfl, hfr, hlen, hsl, h80, h87, h88, h93, h91, h92, h110, h111, ptrI_0, (by omega), (by first | exact jmk | exact rgs_w jmk (by omega)), (by first | exact jrl | exact rgs_w jrl (by omega)), (by first | exact jrh | exact rgs_w jrh (by omega)), (by first | exact jns | exact rgs_w jns (by omega)), (by first | exact jnm | exact rgs_w jnm (by omega)), (by rw [show wh = m_at by omega]; exact sf_o (by omega) (of_h (by omega) (by omega) (by omega) (nm_n hq4 (by rw [show m_at + 4 + n22 = m_at + n22 + 4 by omega]; omega))))⟩)
                · cases hv
                  rw [hGe]
                  change ab_W _ _ _ G1 84 [some (vR 80), some (vz wh), some (vz (m_at + 4)), some (vz n22), none, none, none] [] _
                  exfalso; omega
            · cases hv
              rw [hGe]
              change ab_W _ _ _ G1 72 [some (vR 80), some (vz wh), some (vz (m_at + 4)), some (vz n22), none, none, none] [vz (-1)] _
              refine zz_bipush d_MO_readName_72 (by decide) ?_
              refine zz_icmp_eq (tgt := 85) d_MO_readName_74 (by decide) (by decide) (by decide) (fun c47 => absurd c47 (by decide)) (fun c47 => ?_)
              refine ab_aload_n d_MO_readName_77 rfl ?_
              refine zz_bipush d_MO_readName_78 (by decide) ?_
              refine ab_iload_n d_MO_readName_80 rfl ?_
              refine ab_callV (d' := d - 1) (as := [vz 10, vz wh]) (st := []) (r := _) (z_MO_wrong (o := o) (m_thrown := m_thrown) (m_taped := m_taped) (m_length := m_length) (m_out := m_out) (m_wide := m_wide) (m_gathered := m_gathered) (m_sets := m_sets) (m_ranges := m_ranges) (m_nodes := m_nodes) (m_at := m_at) (m_flags := m_flags) (m_fault := m_fault) (m_place := m_place) (m_numbered := m_numbered) (m_depth := m_depth) (m_value := m_value) (m_isNot := m_isNot) (m_least0 := m_least0) (m_most0 := m_most0) (m_slot := m_slot) (m_work := m_work) (m_got := m_got) (m_rowMany := m_rowMany) (m_charAt := m_charAt) (m_charWide := m_charWide) (m_trail := m_trail) (m_isMatch := m_isMatch) (m_matchGroups := m_matchGroups) (m_allFrom := m_allFrom) (m_allBefore := m_allBefore) (m_founds := m_founds) (m_pieces := m_pieces) (m_writtenMany := m_writtenMany) (m_templateWide := m_templateWide) (m_tooMuch := m_tooMuch) (x := 10) (y := wh) h80 (by omega) (by omega)) (fun oc G2 h => by rcases h with ⟨h, _⟩ | ⟨h, _⟩ <;> exact ⟨_, h⟩) (by omega) m_MO_wrong ml_MO_304 im_MO_wrong se_MO_wrong c_MO h80.2.2 (Nat.le_of_ble_eq_true rfl) d_MO_readName_81 rfl ?_
              intro v G48 hq
              rcases hq with ⟨hv, hfk, hlk, hsk, hN80, hq49⟩ | ⟨hv, hGe, hq50⟩
              · cases hv
                have h84 := hfk.get h84 (by decide)
                have h87 := hfk.get h87 (by decide)
                have h88 := hfk.get h88 (by decide)
                have h93 := hfk.get h93 (by decide)
                have h81 := hfk.get h81 (by decide)
                have h82 := hfk.get h82 (by decide)
                have h91 := hfk.get h91 (by decide)
                have h92 := hfk.get h92 (by decide)
                have h110 := hfk.get h110 (by decide)
                have h111 := hfk.get h111 (by decide)
                have ptrI_0 := trI.fr hfk ptrI_0 (by decide) (by decide) (by decide) (by decide) (by decide) (by decide) (by decide) (by decide) (by decide) (by decide) (by decide) (by decide) (by decide) (by decide) (by decide) (by decide) (by decide) (by decide)
                have hfr := hfr.tr hfk (by decide)
                have hlen := hlk.trans hlen
                have hsl := hsk.trans hsl
                have h80 := hN80
                change ab_W _ _ _ G48 84 [some (vR 80), some (vz wh), some (vz (m_at + 4)), some (vz n22), none, none, none] [] _
                refine ab_vret rfl d_MO_readName_84 ?_
                rw [hQ]; exact (Or.inr ⟨_, _, _, _, _, _, _, _, _, _, _, _, _, _, _, _, _, _, _, _, _, _, ((a1_, b1_, c1_, d1_, e1_) :: t1_), rp, ls, SV, ((ao1_, ro1_) :: ts1_), ro, vv, rfl, hfr, hlen, hsl, h80, h87, h88, h93, h91, h92, h110, h111, ptrI_0, (by omega), (by first | exact jmk | exact rgs_w jmk (by omega)), (by first | exact jrl | exact rgs_w jrl (by omega)), (by first | exact jrh | exact rgs_w jrh (by omega)), (by first | exact jns | exact rgs_w jns (by omega)), (by first | exact jnm | exact rgs_w jnm (by omega)), (by rw [show wh = m_at by omega]; exact sf_o (by omega) (of_h (by omega) (by omega) (by omega) (nm_n hq4 (by rw [show m_at + 4 + n22 = m_at + n22 + 4 by omega]; omega))))⟩)
              · cases hv
                rw [hGe]
                change ab_W _ _ _ G1 84 [some (vR 80), some (vz wh), some (vz (m_at + 4)), some (vz n22), none, none, none] [] _
                exfalso; omega
    · cases hv
      rw [hGe]
      change ab_W _ _ _ G1 49 [some (vR 80), some (vz wh), some (vz (m_at + 4)), some (vz n22), none, none, none] [vz (-1)] _
      refine zz_bipush d_MO_readName_49 (by decide) ?_
      refine zz_icmp_ne (tgt := 77) d_MO_readName_51 (by decide) (by decide) (by decide) (fun c51 => ?_) (fun c51 => absurd c51 (by decide))
      refine ab_aload_n d_MO_readName_77 rfl ?_
      refine zz_bipush d_MO_readName_78 (by decide) ?_
      refine ab_iload_n d_MO_readName_80 rfl ?_
      refine ab_callV (d' := d - 1) (as := [vz 10, vz wh]) (st := []) (r := _) (z_MO_wrong (o := o) (m_thrown := m_thrown) (m_taped := m_taped) (m_length := m_length) (m_out := m_out) (m_wide := m_wide) (m_gathered := m_gathered) (m_sets := m_sets) (m_ranges := m_ranges) (m_nodes := m_nodes) (m_at := m_at) (m_flags := m_flags) (m_fault := m_fault) (m_place := m_place) (m_numbered := m_numbered) (m_depth := m_depth) (m_value := m_value) (m_isNot := m_isNot) (m_least0 := m_least0) (m_most0 := m_most0) (m_slot := m_slot) (m_work := m_work) (m_got := m_got) (m_rowMany := m_rowMany) (m_charAt := m_charAt) (m_charWide := m_charWide) (m_trail := m_trail) (m_isMatch := m_isMatch) (m_matchGroups := m_matchGroups) (m_allFrom := m_allFrom) (m_allBefore := m_allBefore) (m_founds := m_founds) (m_pieces := m_pieces) (m_writtenMany := m_writtenMany) (m_templateWide := m_templateWide) (m_tooMuch := m_tooMuch) (x := 10) (y := wh) h80 (by omega) (by omega)) (fun oc G2 h => by rcases h with ⟨h, _⟩ | ⟨h, _⟩ <;> exact ⟨_, h⟩) (by omega) m_MO_wrong ml_MO_304 im_MO_wrong se_MO_wrong c_MO h80.2.2 (Nat.le_of_ble_eq_true rfl) d_MO_readName_81 rfl ?_
      intro v G52 hq
      rcases hq with ⟨hv, hfk, hlk, hsk, hN80, hq53⟩ | ⟨hv, hGe, hq54⟩
      · cases hv
        have h84 := hfk.get h84 (by decide)
        have h87 := hfk.get h87 (by decide)
        have h88 := hfk.get h88 (by decide)
        have h93 := hfk.get h93 (by decide)
        have h81 := hfk.get h81 (by decide)
        have h82 := hfk.get h82 (by decide)
        have h91 := hfk.get h91 (by decide)
        have h92 := hfk.get h92 (by decide)
        have h110 := hfk.get h110 (by decide)
        have h111 := hfk.get h111 (by decide)
        have ptrI_0 := trI.fr hfk ptrI_0 (by decide) (by decide) (by decide) (by decide) (by decide) (by decide) (by decide) (by decide) (by decide) (by decide) (by decide) (by decide) (by decide) (by decide) (by decide) (by decide) (by decide) (by decide)
        have hfr := hfr.tr hfk (by decide)
        have hlen := hlk.trans hlen
        have hsl := hsk.trans hsl
        have h80 := hN80
        change ab_W _ _ _ G52 84 [some (vR 80), some (vz wh), some (vz (m_at + 4)), some (vz n22), none, none, none] [] _
        refine ab_vret rfl d_MO_readName_84 ?_
        rw [hQ]; exact (Or.inr ⟨_, _, _, _, _, _, _, _, _, _, _, _, _, _, _, _, _, _, _, _, _, _, ((a1_, b1_, c1_, d1_, e1_) :: t1_), rp, ls, SV, ((ao1_, ro1_) :: ts1_), ro, vv, rfl, hfr, hlen, hsl, h80, h87, h88, h93, h91, h92, h110, h111, ptrI_0, (by omega), (by first | exact jmk | exact rgs_w jmk (by omega)), (by first | exact jrl | exact rgs_w jrl (by omega)), (by first | exact jrh | exact rgs_w jrh (by omega)), (by first | exact jns | exact rgs_w jns (by omega)), (by first | exact jnm | exact rgs_w jnm (by omega)), (by rw [show wh = m_at by omega]; exact sf_o (by omega) (of_3 (by omega) (by omega) (by omega) (by omega)))⟩)
      · cases hv
        rw [hGe]
        change ab_W _ _ _ G1 84 [some (vR 80), some (vz wh), some (vz (m_at + 4)), some (vz n22), none, none, none] [] _
        exfalso; omega
