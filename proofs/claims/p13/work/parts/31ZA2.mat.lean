set_option maxRecDepth 100000 in
set_option maxHeartbeats 4000000 in
theorem y_MO_match_162 {X : ab_X} {d : Nat} {Q : Outcome → ab_G → Prop} {o : Nat → Nat} {G0 : ab_G} {m_thrown : Int} {m_taped : Int} {m_length : Int} {m_out : Int} {m_wide : Int} {m_gathered : Int} {m_sets : Int} {m_ranges : Int} {m_nodes : Int} {m_at : Int} {m_flags : Int} {m_fault : Int} {m_place : Int} {m_numbered : Int} {m_depth : Int} {m_value : Int} {m_isNot : Int} {m_least0 : Int} {m_most0 : Int} {m_slot : Int} {m_work : Int} {m_got : Int} {m_rowMany : Int} {m_charAt : Int} {m_charWide : Int} {m_trail : Int} {m_isMatch : Int} {m_matchGroups : Int} {m_allFrom : Int} {m_allBefore : Int} {m_founds : Int} {m_pieces : Int} {m_writtenMany : Int} {m_templateWide : Int} {m_tooMuch : Int} {SP : Int → Int} {s : Int} (n18 : ab_n0 = 18) (jsp : rgs SP 20 (-1) 2000) (hd : 1 ≤ d) : ∀ (mz : Nat) {G : ab_G} {i_ : Int} {KE : Int → Int}, (cc o G 80 280 (ab_ob 12 (mof m_thrown m_taped m_length m_out m_wide m_gathered m_sets m_ranges m_nodes m_at m_flags m_fault m_place m_numbered m_depth m_value m_isNot m_least0 m_most0 m_slot m_work m_got m_rowMany m_charAt m_charWide m_trail m_isMatch m_matchGroups m_allFrom m_allBefore m_founds m_pieces m_writtenMany m_templateWide m_tooMuch))) → (cc o G 138 338 (za 20 SP)) → (cc o G 139 339 (za 20 KE)) → (0 ≤ i_ ∧ i_ ≤ 20) → (rgs KE 20 (-1) 2000) → (fx o o [339] G0 G) → (G.length = G0.length) → (ab_slots G = ab_slots G0) → (Int.toNat (20 - i_) < mz) → (∀ (G2 : ab_G) (KE2 : Int → Int), (cc o G2 139 339 (za 20 KE2)) → (rgs KE2 20 (-1) 2000) → (fx o o [339] G0 G2) → (G2.length = G0.length) → (ab_slots G2 = ab_slots G0) → ab_W X (ab_pl y_MO_match b_MO_match 6 (some (.int))) d G2 189 [some (vR 80), some (vz s), none, none, none, none] [] Q) → ab_W X (ab_pl y_MO_match b_MO_match 6 (some (.int))) d G 162 [some (vR 80), some (vz s), none, none, none, some (vz i_)] [] Q := by
  intro mz
  induction mz with
  | zero => intro G i_ KE h80 h138 h139 ci jke hfr hlen hsl hm hk0; exact absurd hm (Nat.not_lt_zero _)
  | succ mz ih =>
    intro G i_ KE h80 h138 h139 ci jke hfr hlen hsl hm hk0
    refine ab_iload d_MO_match_162 rfl ?_
    refine zz_bipush d_MO_match_164 (by decide) ?_
    refine zz_icmp_ge (tgt := 189) d_MO_match_166 (by decide) (by omega) (by decide) (fun c1 => ?_) (fun c1 => ?_)
    · refine ab_less (L' := [some (vR 80), some (vz s), none, none, none, none]) (fun i v h => by rcases i with _ | _ | _ | _ | _ | _ | i <;> first | exact h | (simp at h)) ?_
      exact hk0 _ _ h139 (by exact jke) hfr hlen hsl
    · refine ab_aload_n d_MO_match_169 rfl ?_
      refine ab_getf (fs := mof m_thrown m_taped m_length m_out m_wide m_gathered m_sets m_ranges m_nodes m_at m_flags m_fault m_place m_numbered m_depth m_value m_isNot m_least0 m_most0 m_slot m_work m_got m_rowMany m_charAt m_charWide m_trail m_isMatch m_matchGroups m_allFrom m_allBefore m_founds m_pieces m_writtenMany m_templateWide m_tooMuch) f_MO_193 d_MO_match_170 h80.2.2 rfl ?_
      refine ab_iload d_MO_match_173 rfl ?_
      refine ab_aload_n d_MO_match_175 rfl ?_
      refine ab_getf (fs := mof m_thrown m_taped m_length m_out m_wide m_gathered m_sets m_ranges m_nodes m_at m_flags m_fault m_place m_numbered m_depth m_value m_isNot m_least0 m_most0 m_slot m_work m_got m_rowMany m_charAt m_charWide m_trail m_isMatch m_matchGroups m_allFrom m_allBefore m_founds m_pieces m_writtenMany m_templateWide m_tooMuch) f_MO_190 d_MO_match_176 h80.2.2 rfl ?_
      refine ab_iload d_MO_match_179 rfl ?_
      refine zz_iald d_MO_match_181 h138 (by omega) ?_
      have hq2 := jsp i_ (by omega) (by omega)
      refine zz_iast d_MO_match_182 h139 (by omega) (h139.2.1 (by decide)) ?_
      obtain ⟨G3, eG3⟩ : ∃ z : ab_G, z = List.set G 139 (za 20 (zu KE i_ (SP i_))) := ⟨_, rfl⟩
      have h80 := h80.keep h139 eG3 (by decide)
      have h138 := h138.keep h139 eG3 (by decide)
      have hlen := (z_len eG3).trans hlen
      have hsl := (z_sl h139 eG3 rfl).trans hsl
      have hfr := hfr.wr h139 eG3 (by decide)
      have h139 := h139.kept eG3
      change ab_W _ _ _ (List.set G 139 (za 20 (zu KE i_ (SP i_)))) 183 [some (vR 80), some (vz s), none, none, none, some (vz i_)] [] _
      rw [← eG3]
      refine zz_iinc d_MO_match_183 rfl (Nat.le_of_ble_eq_true rfl) (Nat.le_of_ble_eq_true rfl) rfl ?_
      change ab_W _ _ _ G3 186 [some (vR 80), some (vz s), none, none, none, some (vz (i_ + 1))] [] _
      refine ab_goto (tgt := 162) d_MO_match_186 (by decide) ?_
      exact ih (i_ := (i_ + 1)) (KE := (zu KE i_ (SP i_))) h80 h138 h139 (by omega) (rgs_zu jke (by omega)) hfr hlen hsl (by omega) hk0
set_option maxRecDepth 100000 in
set_option maxHeartbeats 4000000 in
theorem z_MO_match {X : ab_X} {d : Nat} {o : Nat → Nat} {G : ab_G} {m_thrown : Int} {m_taped : Int} {m_length : Int} {m_out : Int} {m_wide : Int} {m_gathered : Int} {m_sets : Int} {m_ranges : Int} {m_nodes : Int} {m_at : Int} {m_flags : Int} {m_fault : Int} {m_place : Int} {m_numbered : Int} {m_depth : Int} {m_value : Int} {m_isNot : Int} {m_least0 : Int} {m_most0 : Int} {m_slot : Int} {m_work : Int} {m_got : Int} {m_rowMany : Int} {m_charAt : Int} {m_charWide : Int} {m_trail : Int} {m_isMatch : Int} {m_matchGroups : Int} {m_allFrom : Int} {m_allBefore : Int} {m_founds : Int} {m_pieces : Int} {m_writtenMany : Int} {m_templateWide : Int} {m_tooMuch : Int} {A_there : Int → Int} {A_groupsOf : Int → Int} {A_flagsOf : Int → Int} {A_step : Int → Int} {A_next : Int → Int} {A_more : Int → Int} {A_classAt : Int → Int} {A_classMany : Int → Int} {A_classLow : Int → Int} {A_classHigh : Int → Int} {A_subject : Int → Int} {A_stepMany : Int → Int} {A_entry : Int → Int} {CN : Int → Int} {JU : Int → Int} {CO : Int → Int} {ZN : Int → Int} {ZS : Int → Int} {SP : Int → Int} {PL : Int → Int} {PT : Int → Int} {TS : Int → Int} {TO : Int → Int} {KE : Int → Int} {s : Int} {fm : Int} {how : Int} {mc : Int} (h80 : cc o G 80 280 (ab_ob 12 (mof m_thrown m_taped m_length m_out m_wide m_gathered m_sets m_ranges m_nodes m_at m_flags m_fault m_place m_numbered m_depth m_value m_isNot m_least0 m_most0 m_slot m_work m_got m_rowMany m_charAt m_charWide m_trail m_isMatch m_matchGroups m_allFrom m_allBefore m_founds m_pieces m_writtenMany m_templateWide m_tooMuch))) (h139 : cc o G 139 339 (za 20 KE)) (h134 : cc o G 134 334 (zl 392196 CN)) (h135 : cc o G 135 335 (zl 392196 JU)) (h136 : cc o G 136 336 (zl 392196 CO)) (h137 : cc o G 137 337 (zb 12500 ZN)) (h144 : cc o G 144 344 (zb 12500 ZS)) (h138 : cc o G 138 338 (za 20 SP)) (h142 : cc o G 142 342 (za 25000 PL)) (h143 : cc o G 143 343 (za 25000 PT)) (h140 : cc o G 140 340 (za 12500 TS)) (h141 : cc o G 141 341 (za 12500 TO)) (h112 : cc o G 112 312 (zb 6 A_there)) (h114 : cc o G 114 314 (za 6 A_groupsOf)) (h116 : cc o G 116 316 (za 6 A_flagsOf)) (h118 : cc o G 118 318 (za 75000 A_step)) (h119 : cc o G 119 319 (za 75000 A_next)) (h120 : cc o G 120 320 (za 75000 A_more)) (h121 : cc o G 121 321 (za 75000 A_classAt)) (h122 : cc o G 122 322 (za 75000 A_classMany)) (h123 : cc o G 123 323 (za 3600 A_classLow)) (h124 : cc o G 124 324 (za 3600 A_classHigh)) (h85 : cc o G 85 285 (za 2000 A_subject)) (h117 : cc o G 117 317 (za 6 A_stepMany)) (h113 : cc o G 113 313 (za 6 A_entry)) (n18 : ab_n0 = 18) (cle : 0 ≤ m_length ∧ m_length ≤ 2000) (jth : rgs A_there 6 0 1) (jpg : mpg A_there A_step A_next A_more A_classAt A_classMany A_stepMany A_entry A_groupsOf A_flagsOf) (jst : rgs A_step 75000 0 6) (jcl : rgs A_classLow 3600 0 1114111) (jch : rgs A_classHigh 3600 0 1114111) (jsb : rgs A_subject 2000 0 255) (cr : -2147483648 ≤ s ∧ s ≤ 2147483647 ∧ -2147483648 ≤ how ∧ how ≤ 2147483647 ∧ -2147483648 ≤ mc ∧ mc ≤ 2147483647 ∧ -2147483648 ≤ fm ∧ fm ≤ 2147483647) (cim : 0 ≤ m_isMatch ∧ m_isMatch ≤ 1 ∧ 0 ≤ m_matchGroups ∧ m_matchGroups ≤ 9) (jke : rgs KE 20 (-1) 2000) (jn : rgs ZN 12500 0 1) (jse : rgs ZS 12500 0 1) (jsp : rgs SP 20 (-1) 2000) (jpt : rgs PT 25000 0 12500) (jts : rgs TS 12500 0 19) (jto : rgs TO 12500 (-1) 2000) (hd : 9 ≤ d) : ab_F X d y_MO_match (.code y_MO_match b_MO_match 6 (some (.int))) [vR 80, vz s, vz how, vz mc, vz fm] G (fun oc G2 => ∃ v : Int, ∃ th2 : Int, ∃ im2 : Int, ∃ mg2 : Int, ∃ w2 : Int, ∃ c2 : Int, ∃ cw2 : Int, ∃ t2 : Int, ∃ JU2 : Int → Int, ∃ CO2 : Int → Int, ∃ ZN2 : Int → Int, ∃ ZS2 : Int → Int, ∃ SP2 : Int → Int, ∃ PL2 : Int → Int, ∃ PT2 : Int → Int, ∃ TS2 : Int → Int, ∃ TO2 : Int → Int, ∃ CN2 : Int → Int, ∃ KE2 : Int → Int, oc = .returned (some (vz v)) ∧ fx o o [280, 334, 335, 336, 337, 344, 338, 342, 343, 340, 341, 339] G G2 ∧ G2.length = G.length ∧ ab_slots G2 = ab_slots G ∧ cc o G2 80 280 (ab_ob 12 (mof th2 m_taped m_length m_out w2 m_gathered m_sets m_ranges m_nodes m_at m_flags m_fault m_place m_numbered m_depth m_value m_isNot m_least0 m_most0 m_slot m_work m_got m_rowMany c2 cw2 t2 im2 mg2 m_allFrom m_allBefore m_founds m_pieces m_writtenMany m_templateWide m_tooMuch)) ∧ cc o G2 135 335 (zl 392196 JU2) ∧ cc o G2 136 336 (zl 392196 CO2) ∧ cc o G2 137 337 (zb 12500 ZN2) ∧ cc o G2 144 344 (zb 12500 ZS2) ∧ cc o G2 138 338 (za 20 SP2) ∧ cc o G2 142 342 (za 25000 PL2) ∧ cc o G2 143 343 (za 25000 PT2) ∧ cc o G2 140 340 (za 12500 TS2) ∧ cc o G2 141 341 (za 12500 TO2) ∧ cc o G2 134 334 (zl 392196 CN2) ∧ cc o G2 139 339 (za 20 KE2) ∧ (rgs ZN2 12500 0 1) ∧ (rgs ZS2 12500 0 1) ∧ (rgs SP2 20 (-1) 2000) ∧ (rgs PT2 25000 0 12500) ∧ (rgs TS2 12500 0 19) ∧ (rgs TO2 12500 (-1) 2000) ∧ (rgs KE2 20 (-1) 2000) ∧ (0 ≤ im2 ∧ im2 ≤ 1 ∧ 0 ≤ mg2 ∧ mg2 ≤ 9)) := by
  refine ab_F_of (by decide +kernel) (Nat.le_of_ble_eq_true rfl) ?_
  obtain ⟨Q, hQ⟩ : ∃ z : Outcome → ab_G → Prop, z = (fun oc G2 => ∃ v : Int, ∃ th2 : Int, ∃ im2 : Int, ∃ mg2 : Int, ∃ w2 : Int, ∃ c2 : Int, ∃ cw2 : Int, ∃ t2 : Int, ∃ JU2 : Int → Int, ∃ CO2 : Int → Int, ∃ ZN2 : Int → Int, ∃ ZS2 : Int → Int, ∃ SP2 : Int → Int, ∃ PL2 : Int → Int, ∃ PT2 : Int → Int, ∃ TS2 : Int → Int, ∃ TO2 : Int → Int, ∃ CN2 : Int → Int, ∃ KE2 : Int → Int, oc = .returned (some (vz v)) ∧ fx o o [280, 334, 335, 336, 337, 344, 338, 342, 343, 340, 341, 339] G G2 ∧ G2.length = G.length ∧ ab_slots G2 = ab_slots G ∧ cc o G2 80 280 (ab_ob 12 (mof th2 m_taped m_length m_out w2 m_gathered m_sets m_ranges m_nodes m_at m_flags m_fault m_place m_numbered m_depth m_value m_isNot m_least0 m_most0 m_slot m_work m_got m_rowMany c2 cw2 t2 im2 mg2 m_allFrom m_allBefore m_founds m_pieces m_writtenMany m_templateWide m_tooMuch)) ∧ cc o G2 135 335 (zl 392196 JU2) ∧ cc o G2 136 336 (zl 392196 CO2) ∧ cc o G2 137 337 (zb 12500 ZN2) ∧ cc o G2 144 344 (zb 12500 ZS2) ∧ cc o G2 138 338 (za 20 SP2) ∧ cc o G2 142 342 (za 25000 PL2) ∧ cc o G2 143 343 (za 25000 PT2) ∧ cc o G2 140 340 (za 12500 TS2) ∧ cc o G2 141 341 (za 12500 TO2) ∧ cc o G2 134 334 (zl 392196 CN2) ∧ cc o G2 139 339 (za 20 KE2) ∧ (rgs ZN2 12500 0 1) ∧ (rgs ZS2 12500 0 1) ∧ (rgs SP2 20 (-1) 2000) ∧ (rgs PT2 25000 0 12500) ∧ (rgs TS2 12500 0 19) ∧ (rgs TO2 12500 (-1) 2000) ∧ (rgs KE2 20 (-1) 2000) ∧ (0 ≤ im2 ∧ im2 ≤ 1 ∧ 0 ≤ mg2 ∧ mg2 ≤ 9)) := ⟨_, rfl⟩
  rw [← hQ]
  change ab_W X (ab_pl y_MO_match b_MO_match 6 (some (.int))) d G 0 [some (vR 80), some (vz s), some (vz how), some (vz mc), some (vz fm), none] [] Q
  have hfr : fx o o [280, 334, 335, 336, 337, 344, 338, 342, 343, 340, 341, 339] G G := fx.rf
  have hlen : G.length = G.length := rfl
  have hsl : ab_slots G = ab_slots G := rfl
  refine ab_aload_n d_MO_match_0 rfl ?_
  refine ab_aload_n d_MO_match_1 rfl ?_
  refine ab_iload_n d_MO_match_2 rfl ?_
  refine ab_callV (d' := d - 1) (as := [vz s]) (st := [vR 80]) (r := _) (z_MO_isThere (o := o) (m_thrown := m_thrown) (m_taped := m_taped) (m_length := m_length) (m_out := m_out) (m_wide := m_wide) (m_gathered := m_gathered) (m_sets := m_sets) (m_ranges := m_ranges) (m_nodes := m_nodes) (m_at := m_at) (m_flags := m_flags) (m_fault := m_fault) (m_place := m_place) (m_numbered := m_numbered) (m_depth := m_depth) (m_value := m_value) (m_isNot := m_isNot) (m_least0 := m_least0) (m_most0 := m_most0) (m_slot := m_slot) (m_work := m_work) (m_got := m_got) (m_rowMany := m_rowMany) (m_charAt := m_charAt) (m_charWide := m_charWide) (m_trail := m_trail) (m_isMatch := m_isMatch) (m_matchGroups := m_matchGroups) (m_allFrom := m_allFrom) (m_allBefore := m_allBefore) (m_founds := m_founds) (m_pieces := m_pieces) (m_writtenMany := m_writtenMany) (m_templateWide := m_templateWide) (m_tooMuch := m_tooMuch) (A_there := A_there) (x := s) h80 h112 (by omega) jth) (fun oc G2 h => by rcases h with ⟨_, h, _⟩ <;> exact ⟨_, h⟩) (by omega) m_MO_isThere ml_MO_507 im_MO_isThere se_MO_isThere c_MO h80.2.2 (Nat.le_of_ble_eq_true rfl) d_MO_match_3 rfl ?_
  intro v G1 hq
  rcases hq with ⟨v2, hv, hGe, hq3, hq4⟩
  cases hv
  rw [hGe]
  change ab_W _ _ _ G 6 [some (vR 80), some (vz s), some (vz how), some (vz mc), some (vz fm), none] [vz v2, vR 80] _
  refine zz_if_eq (tgt := 41) d_MO_match_6 (by decide) (by omega) (fun c5 => ?_) (fun c5 => ?_)
  · refine zz_iconst d_MO_match_41 ?_
    refine ab_goto (tgt := 46) d_MO_match_42 (by decide) ?_
    refine ab_putf (fs := mof m_thrown m_taped m_length m_out m_wide m_gathered m_sets m_ranges m_nodes m_at m_flags m_fault m_place m_numbered m_depth m_value m_isNot m_least0 m_most0 m_slot m_work m_got m_rowMany m_charAt m_charWide m_trail m_isMatch m_matchGroups m_allFrom m_allBefore m_founds m_pieces m_writtenMany m_templateWide m_tooMuch) f_MO_220 (Or.inl rfl) d_MO_match_46 h80.2.2 (Nat.le_of_ble_eq_true rfl) (fun _ => ⟨rfl, rfl⟩) (h80.2.1 (by decide)) ?_
    obtain ⟨G6, eG6⟩ : ∃ z : ab_G, z = List.set G 80 (ab_ob 12 (mof 1 m_taped m_length m_out m_wide m_gathered m_sets m_ranges m_nodes m_at m_flags m_fault m_place m_numbered m_depth m_value m_isNot m_least0 m_most0 m_slot m_work m_got m_rowMany m_charAt m_charWide m_trail m_isMatch m_matchGroups m_allFrom m_allBefore m_founds m_pieces m_writtenMany m_templateWide m_tooMuch)) := ⟨_, rfl⟩
    have h139 := h139.keep h80 eG6 (by decide)
    have h134 := h134.keep h80 eG6 (by decide)
    have h135 := h135.keep h80 eG6 (by decide)
    have h136 := h136.keep h80 eG6 (by decide)
    have h137 := h137.keep h80 eG6 (by decide)
    have h144 := h144.keep h80 eG6 (by decide)
    have h138 := h138.keep h80 eG6 (by decide)
    have h142 := h142.keep h80 eG6 (by decide)
    have h143 := h143.keep h80 eG6 (by decide)
    have h140 := h140.keep h80 eG6 (by decide)
    have h141 := h141.keep h80 eG6 (by decide)
    have h112 := h112.keep h80 eG6 (by decide)
    have h114 := h114.keep h80 eG6 (by decide)
    have h116 := h116.keep h80 eG6 (by decide)
    have h118 := h118.keep h80 eG6 (by decide)
    have h119 := h119.keep h80 eG6 (by decide)
    have h120 := h120.keep h80 eG6 (by decide)
    have h121 := h121.keep h80 eG6 (by decide)
    have h122 := h122.keep h80 eG6 (by decide)
    have h123 := h123.keep h80 eG6 (by decide)
    have h124 := h124.keep h80 eG6 (by decide)
    have h85 := h85.keep h80 eG6 (by decide)
    have h117 := h117.keep h80 eG6 (by decide)
    have h113 := h113.keep h80 eG6 (by decide)
    have hlen := (z_len eG6).trans hlen
    have hsl := (z_sl h80 eG6 rfl).trans hsl
    have hfr := hfr.wr h80 eG6 (by decide)
    have h80 := h80.kept eG6
    change ab_W _ _ _ (List.set G 80 (ab_ob 12 (mof 1 m_taped m_length m_out m_wide m_gathered m_sets m_ranges m_nodes m_at m_flags m_fault m_place m_numbered m_depth m_value m_isNot m_least0 m_most0 m_slot m_work m_got m_rowMany m_charAt m_charWide m_trail m_isMatch m_matchGroups m_allFrom m_allBefore m_founds m_pieces m_writtenMany m_templateWide m_tooMuch))) 49 [some (vR 80), some (vz s), some (vz how), some (vz mc), some (vz fm), none] [] _
    rw [← eG6]
    refine ab_aload_n d_MO_match_49 rfl ?_
    refine ab_getf (fs := mof 1 m_taped m_length m_out m_wide m_gathered m_sets m_ranges m_nodes m_at m_flags m_fault m_place m_numbered m_depth m_value m_isNot m_least0 m_most0 m_slot m_work m_got m_rowMany m_charAt m_charWide m_trail m_isMatch m_matchGroups m_allFrom m_allBefore m_founds m_pieces m_writtenMany m_templateWide m_tooMuch) f_MO_220 d_MO_match_50 h80.2.2 rfl ?_
    refine zz_if_le (tgt := 58) d_MO_match_53 (by decide) (by decide) (fun c7 => absurd c7 (by decide)) (fun c7 => ?_)
    refine zz_iconst d_MO_match_56 ?_
    refine zz_iret rfl d_MO_match_57 ?_
    rw [hQ]; exact ⟨_, _, _, _, _, _, _, _, _, _, _, _, _, _, _, _, _, _, _, rfl, hfr, hlen, hsl, h80, h135, h136, h137, h144, h138, h142, h143, h140, h141, h134, h139, (by first | exact jn | exact rgs_w jn (by omega)), (by first | exact jse | exact rgs_w jse (by omega)), (by first | exact jsp | exact rgs_w jsp (by omega)), (by first | exact jpt | exact rgs_w jpt (by omega)), (by first | exact jts | exact rgs_w jts (by omega)), (by first | exact jto | exact rgs_w jto (by omega)), (by first | exact jke | exact rgs_w jke (by omega)), (by omega)⟩
  · refine ab_iload_n d_MO_match_9 rfl ?_
    refine zz_if_lt (tgt := 41) d_MO_match_10 (by decide) (by omega) (fun c8 => ?_) (fun c8 => ?_)
    · refine zz_iconst d_MO_match_41 ?_
      refine ab_goto (tgt := 46) d_MO_match_42 (by decide) ?_
      refine ab_putf (fs := mof m_thrown m_taped m_length m_out m_wide m_gathered m_sets m_ranges m_nodes m_at m_flags m_fault m_place m_numbered m_depth m_value m_isNot m_least0 m_most0 m_slot m_work m_got m_rowMany m_charAt m_charWide m_trail m_isMatch m_matchGroups m_allFrom m_allBefore m_founds m_pieces m_writtenMany m_templateWide m_tooMuch) f_MO_220 (Or.inl rfl) d_MO_match_46 h80.2.2 (Nat.le_of_ble_eq_true rfl) (fun _ => ⟨rfl, rfl⟩) (h80.2.1 (by decide)) ?_
      obtain ⟨G9, eG9⟩ : ∃ z : ab_G, z = List.set G 80 (ab_ob 12 (mof 1 m_taped m_length m_out m_wide m_gathered m_sets m_ranges m_nodes m_at m_flags m_fault m_place m_numbered m_depth m_value m_isNot m_least0 m_most0 m_slot m_work m_got m_rowMany m_charAt m_charWide m_trail m_isMatch m_matchGroups m_allFrom m_allBefore m_founds m_pieces m_writtenMany m_templateWide m_tooMuch)) := ⟨_, rfl⟩
      have h139 := h139.keep h80 eG9 (by decide)
      have h134 := h134.keep h80 eG9 (by decide)
      have h135 := h135.keep h80 eG9 (by decide)
      have h136 := h136.keep h80 eG9 (by decide)
      have h137 := h137.keep h80 eG9 (by decide)
      have h144 := h144.keep h80 eG9 (by decide)
      have h138 := h138.keep h80 eG9 (by decide)
      have h142 := h142.keep h80 eG9 (by decide)
      have h143 := h143.keep h80 eG9 (by decide)
      have h140 := h140.keep h80 eG9 (by decide)
      have h141 := h141.keep h80 eG9 (by decide)
      have h112 := h112.keep h80 eG9 (by decide)
      have h114 := h114.keep h80 eG9 (by decide)
      have h116 := h116.keep h80 eG9 (by decide)
      have h118 := h118.keep h80 eG9 (by decide)
      have h119 := h119.keep h80 eG9 (by decide)
      have h120 := h120.keep h80 eG9 (by decide)
      have h121 := h121.keep h80 eG9 (by decide)
      have h122 := h122.keep h80 eG9 (by decide)
      have h123 := h123.keep h80 eG9 (by decide)
      have h124 := h124.keep h80 eG9 (by decide)
      have h85 := h85.keep h80 eG9 (by decide)
      have h117 := h117.keep h80 eG9 (by decide)
      have h113 := h113.keep h80 eG9 (by decide)
      have hlen := (z_len eG9).trans hlen
      have hsl := (z_sl h80 eG9 rfl).trans hsl
      have hfr := hfr.wr h80 eG9 (by decide)
      have h80 := h80.kept eG9
      change ab_W _ _ _ (List.set G 80 (ab_ob 12 (mof 1 m_taped m_length m_out m_wide m_gathered m_sets m_ranges m_nodes m_at m_flags m_fault m_place m_numbered m_depth m_value m_isNot m_least0 m_most0 m_slot m_work m_got m_rowMany m_charAt m_charWide m_trail m_isMatch m_matchGroups m_allFrom m_allBefore m_founds m_pieces m_writtenMany m_templateWide m_tooMuch))) 49 [some (vR 80), some (vz s), some (vz how), some (vz mc), some (vz fm), none] [] _
      rw [← eG9]
      refine ab_aload_n d_MO_match_49 rfl ?_
      refine ab_getf (fs := mof 1 m_taped m_length m_out m_wide m_gathered m_sets m_ranges m_nodes m_at m_flags m_fault m_place m_numbered m_depth m_value m_isNot m_least0 m_most0 m_slot m_work m_got m_rowMany m_charAt m_charWide m_trail m_isMatch m_matchGroups m_allFrom m_allBefore m_founds m_pieces m_writtenMany m_templateWide m_tooMuch) f_MO_220 d_MO_match_50 h80.2.2 rfl ?_
      refine zz_if_le (tgt := 58) d_MO_match_53 (by decide) (by decide) (fun c10 => absurd c10 (by decide)) (fun c10 => ?_)
      refine zz_iconst d_MO_match_56 ?_
      refine zz_iret rfl d_MO_match_57 ?_
      rw [hQ]; exact ⟨_, _, _, _, _, _, _, _, _, _, _, _, _, _, _, _, _, _, _, rfl, hfr, hlen, hsl, h80, h135, h136, h137, h144, h138, h142, h143, h140, h141, h134, h139, (by first | exact jn | exact rgs_w jn (by omega)), (by first | exact jse | exact rgs_w jse (by omega)), (by first | exact jsp | exact rgs_w jsp (by omega)), (by first | exact jpt | exact rgs_w jpt (by omega)), (by first | exact jts | exact rgs_w jts (by omega)), (by first | exact jto | exact rgs_w jto (by omega)), (by first | exact jke | exact rgs_w jke (by omega)), (by omega)⟩
    · refine ab_iload_n d_MO_match_13 rfl ?_
      refine zz_iconst d_MO_match_14 ?_
      refine zz_icmp_gt (tgt := 41) d_MO_match_15 (by decide) (by omega) (by decide) (fun c11 => ?_) (fun c11 => ?_)
      · refine zz_iconst d_MO_match_41 ?_
        refine ab_goto (tgt := 46) d_MO_match_42 (by decide) ?_
        refine ab_putf (fs := mof m_thrown m_taped m_length m_out m_wide m_gathered m_sets m_ranges m_nodes m_at m_flags m_fault m_place m_numbered m_depth m_value m_isNot m_least0 m_most0 m_slot m_work m_got m_rowMany m_charAt m_charWide m_trail m_isMatch m_matchGroups m_allFrom m_allBefore m_founds m_pieces m_writtenMany m_templateWide m_tooMuch) f_MO_220 (Or.inl rfl) d_MO_match_46 h80.2.2 (Nat.le_of_ble_eq_true rfl) (fun _ => ⟨rfl, rfl⟩) (h80.2.1 (by decide)) ?_
        obtain ⟨G12, eG12⟩ : ∃ z : ab_G, z = List.set G 80 (ab_ob 12 (mof 1 m_taped m_length m_out m_wide m_gathered m_sets m_ranges m_nodes m_at m_flags m_fault m_place m_numbered m_depth m_value m_isNot m_least0 m_most0 m_slot m_work m_got m_rowMany m_charAt m_charWide m_trail m_isMatch m_matchGroups m_allFrom m_allBefore m_founds m_pieces m_writtenMany m_templateWide m_tooMuch)) := ⟨_, rfl⟩
        have h139 := h139.keep h80 eG12 (by decide)
        have h134 := h134.keep h80 eG12 (by decide)
        have h135 := h135.keep h80 eG12 (by decide)
        have h136 := h136.keep h80 eG12 (by decide)
        have h137 := h137.keep h80 eG12 (by decide)
        have h144 := h144.keep h80 eG12 (by decide)
        have h138 := h138.keep h80 eG12 (by decide)
        have h142 := h142.keep h80 eG12 (by decide)
        have h143 := h143.keep h80 eG12 (by decide)
        have h140 := h140.keep h80 eG12 (by decide)
        have h141 := h141.keep h80 eG12 (by decide)
        have h112 := h112.keep h80 eG12 (by decide)
        have h114 := h114.keep h80 eG12 (by decide)
        have h116 := h116.keep h80 eG12 (by decide)
        have h118 := h118.keep h80 eG12 (by decide)
        have h119 := h119.keep h80 eG12 (by decide)
        have h120 := h120.keep h80 eG12 (by decide)
        have h121 := h121.keep h80 eG12 (by decide)
        have h122 := h122.keep h80 eG12 (by decide)
        have h123 := h123.keep h80 eG12 (by decide)
        have h124 := h124.keep h80 eG12 (by decide)
        have h85 := h85.keep h80 eG12 (by decide)
        have h117 := h117.keep h80 eG12 (by decide)
        have h113 := h113.keep h80 eG12 (by decide)
        have hlen := (z_len eG12).trans hlen
        have hsl := (z_sl h80 eG12 rfl).trans hsl
        have hfr := hfr.wr h80 eG12 (by decide)
        have h80 := h80.kept eG12
        change ab_W _ _ _ (List.set G 80 (ab_ob 12 (mof 1 m_taped m_length m_out m_wide m_gathered m_sets m_ranges m_nodes m_at m_flags m_fault m_place m_numbered m_depth m_value m_isNot m_least0 m_most0 m_slot m_work m_got m_rowMany m_charAt m_charWide m_trail m_isMatch m_matchGroups m_allFrom m_allBefore m_founds m_pieces m_writtenMany m_templateWide m_tooMuch))) 49 [some (vR 80), some (vz s), some (vz how), some (vz mc), some (vz fm), none] [] _
        rw [← eG12]
        refine ab_aload_n d_MO_match_49 rfl ?_
        refine ab_getf (fs := mof 1 m_taped m_length m_out m_wide m_gathered m_sets m_ranges m_nodes m_at m_flags m_fault m_place m_numbered m_depth m_value m_isNot m_least0 m_most0 m_slot m_work m_got m_rowMany m_charAt m_charWide m_trail m_isMatch m_matchGroups m_allFrom m_allBefore m_founds m_pieces m_writtenMany m_templateWide m_tooMuch) f_MO_220 d_MO_match_50 h80.2.2 rfl ?_
        refine zz_if_le (tgt := 58) d_MO_match_53 (by decide) (by decide) (fun c13 => absurd c13 (by decide)) (fun c13 => ?_)
        refine zz_iconst d_MO_match_56 ?_
        refine zz_iret rfl d_MO_match_57 ?_
        rw [hQ]; exact ⟨_, _, _, _, _, _, _, _, _, _, _, _, _, _, _, _, _, _, _, rfl, hfr, hlen, hsl, h80, h135, h136, h137, h144, h138, h142, h143, h140, h141, h134, h139, (by first | exact jn | exact rgs_w jn (by omega)), (by first | exact jse | exact rgs_w jse (by omega)), (by first | exact jsp | exact rgs_w jsp (by omega)), (by first | exact jpt | exact rgs_w jpt (by omega)), (by first | exact jts | exact rgs_w jts (by omega)), (by first | exact jto | exact rgs_w jto (by omega)), (by first | exact jke | exact rgs_w jke (by omega)), (by omega)⟩
      · refine ab_iload_n d_MO_match_18 rfl ?_
        refine zz_if_lt (tgt := 41) d_MO_match_19 (by decide) (by omega) (fun c14 => ?_) (fun c14 => ?_)
        · refine zz_iconst d_MO_match_41 ?_
          refine ab_goto (tgt := 46) d_MO_match_42 (by decide) ?_
          refine ab_putf (fs := mof m_thrown m_taped m_length m_out m_wide m_gathered m_sets m_ranges m_nodes m_at m_flags m_fault m_place m_numbered m_depth m_value m_isNot m_least0 m_most0 m_slot m_work m_got m_rowMany m_charAt m_charWide m_trail m_isMatch m_matchGroups m_allFrom m_allBefore m_founds m_pieces m_writtenMany m_templateWide m_tooMuch) f_MO_220 (Or.inl rfl) d_MO_match_46 h80.2.2 (Nat.le_of_ble_eq_true rfl) (fun _ => ⟨rfl, rfl⟩) (h80.2.1 (by decide)) ?_
          obtain ⟨G15, eG15⟩ : ∃ z : ab_G, z = List.set G 80 (ab_ob 12 (mof 1 m_taped m_length m_out m_wide m_gathered m_sets m_ranges m_nodes m_at m_flags m_fault m_place m_numbered m_depth m_value m_isNot m_least0 m_most0 m_slot m_work m_got m_rowMany m_charAt m_charWide m_trail m_isMatch m_matchGroups m_allFrom m_allBefore m_founds m_pieces m_writtenMany m_templateWide m_tooMuch)) := ⟨_, rfl⟩
          have h139 := h139.keep h80 eG15 (by decide)
          have h134 := h134.keep h80 eG15 (by decide)
          have h135 := h135.keep h80 eG15 (by decide)
          have h136 := h136.keep h80 eG15 (by decide)
          have h137 := h137.keep h80 eG15 (by decide)
          have h144 := h144.keep h80 eG15 (by decide)
          have h138 := h138.keep h80 eG15 (by decide)
          have h142 := h142.keep h80 eG15 (by decide)
          have h143 := h143.keep h80 eG15 (by decide)
          have h140 := h140.keep h80 eG15 (by decide)
          have h141 := h141.keep h80 eG15 (by decide)
          have h112 := h112.keep h80 eG15 (by decide)
          have h114 := h114.keep h80 eG15 (by decide)
          have h116 := h116.keep h80 eG15 (by decide)
          have h118 := h118.keep h80 eG15 (by decide)
          have h119 := h119.keep h80 eG15 (by decide)
          have h120 := h120.keep h80 eG15 (by decide)
          have h121 := h121.keep h80 eG15 (by decide)
          have h122 := h122.keep h80 eG15 (by decide)
          have h123 := h123.keep h80 eG15 (by decide)
          have h124 := h124.keep h80 eG15 (by decide)
          have h85 := h85.keep h80 eG15 (by decide)
          have h117 := h117.keep h80 eG15 (by decide)
          have h113 := h113.keep h80 eG15 (by decide)
          have hlen := (z_len eG15).trans hlen
          have hsl := (z_sl h80 eG15 rfl).trans hsl
          have hfr := hfr.wr h80 eG15 (by decide)
          have h80 := h80.kept eG15
          change ab_W _ _ _ (List.set G 80 (ab_ob 12 (mof 1 m_taped m_length m_out m_wide m_gathered m_sets m_ranges m_nodes m_at m_flags m_fault m_place m_numbered m_depth m_value m_isNot m_least0 m_most0 m_slot m_work m_got m_rowMany m_charAt m_charWide m_trail m_isMatch m_matchGroups m_allFrom m_allBefore m_founds m_pieces m_writtenMany m_templateWide m_tooMuch))) 49 [some (vR 80), some (vz s), some (vz how), some (vz mc), some (vz fm), none] [] _
          rw [← eG15]
          refine ab_aload_n d_MO_match_49 rfl ?_
          refine ab_getf (fs := mof 1 m_taped m_length m_out m_wide m_gathered m_sets m_ranges m_nodes m_at m_flags m_fault m_place m_numbered m_depth m_value m_isNot m_least0 m_most0 m_slot m_work m_got m_rowMany m_charAt m_charWide m_trail m_isMatch m_matchGroups m_allFrom m_allBefore m_founds m_pieces m_writtenMany m_templateWide m_tooMuch) f_MO_220 d_MO_match_50 h80.2.2 rfl ?_
          refine zz_if_le (tgt := 58) d_MO_match_53 (by decide) (by decide) (fun c16 => absurd c16 (by decide)) (fun c16 => ?_)
          refine zz_iconst d_MO_match_56 ?_
          refine zz_iret rfl d_MO_match_57 ?_
          rw [hQ]; exact ⟨_, _, _, _, _, _, _, _, _, _, _, _, _, _, _, _, _, _, _, rfl, hfr, hlen, hsl, h80, h135, h136, h137, h144, h138, h142, h143, h140, h141, h134, h139, (by first | exact jn | exact rgs_w jn (by omega)), (by first | exact jse | exact rgs_w jse (by omega)), (by first | exact jsp | exact rgs_w jsp (by omega)), (by first | exact jpt | exact rgs_w jpt (by omega)), (by first | exact jts | exact rgs_w jts (by omega)), (by first | exact jto | exact rgs_w jto (by omega)), (by first | exact jke | exact rgs_w jke (by omega)), (by omega)⟩
        · refine ab_iload_n d_MO_match_22 rfl ?_
          refine zz_iconst d_MO_match_23 ?_
          refine zz_icmp_gt (tgt := 41) d_MO_match_24 (by decide) (by omega) (by decide) (fun c17 => ?_) (fun c17 => ?_)
          · refine zz_iconst d_MO_match_41 ?_
            refine ab_goto (tgt := 46) d_MO_match_42 (by decide) ?_
            refine ab_putf (fs := mof m_thrown m_taped m_length m_out m_wide m_gathered m_sets m_ranges m_nodes m_at m_flags m_fault m_place m_numbered m_depth m_value m_isNot m_least0 m_most0 m_slot m_work m_got m_rowMany m_charAt m_charWide m_trail m_isMatch m_matchGroups m_allFrom m_allBefore m_founds m_pieces m_writtenMany m_templateWide m_tooMuch) f_MO_220 (Or.inl rfl) d_MO_match_46 h80.2.2 (Nat.le_of_ble_eq_true rfl) (fun _ => ⟨rfl, rfl⟩) (h80.2.1 (by decide)) ?_
            obtain ⟨G18, eG18⟩ : ∃ z : ab_G, z = List.set G 80 (ab_ob 12 (mof 1 m_taped m_length m_out m_wide m_gathered m_sets m_ranges m_nodes m_at m_flags m_fault m_place m_numbered m_depth m_value m_isNot m_least0 m_most0 m_slot m_work m_got m_rowMany m_charAt m_charWide m_trail m_isMatch m_matchGroups m_allFrom m_allBefore m_founds m_pieces m_writtenMany m_templateWide m_tooMuch)) := ⟨_, rfl⟩
            have h139 := h139.keep h80 eG18 (by decide)
            have h134 := h134.keep h80 eG18 (by decide)
            have h135 := h135.keep h80 eG18 (by decide)
            have h136 := h136.keep h80 eG18 (by decide)
            have h137 := h137.keep h80 eG18 (by decide)
            have h144 := h144.keep h80 eG18 (by decide)
            have h138 := h138.keep h80 eG18 (by decide)
            have h142 := h142.keep h80 eG18 (by decide)
            have h143 := h143.keep h80 eG18 (by decide)
            have h140 := h140.keep h80 eG18 (by decide)
            have h141 := h141.keep h80 eG18 (by decide)
            have h112 := h112.keep h80 eG18 (by decide)
            have h114 := h114.keep h80 eG18 (by decide)
            have h116 := h116.keep h80 eG18 (by decide)
            have h118 := h118.keep h80 eG18 (by decide)
            have h119 := h119.keep h80 eG18 (by decide)
            have h120 := h120.keep h80 eG18 (by decide)
            have h121 := h121.keep h80 eG18 (by decide)
            have h122 := h122.keep h80 eG18 (by decide)
            have h123 := h123.keep h80 eG18 (by decide)
            have h124 := h124.keep h80 eG18 (by decide)
            have h85 := h85.keep h80 eG18 (by decide)
            have h117 := h117.keep h80 eG18 (by decide)
            have h113 := h113.keep h80 eG18 (by decide)
            have hlen := (z_len eG18).trans hlen
            have hsl := (z_sl h80 eG18 rfl).trans hsl
            have hfr := hfr.wr h80 eG18 (by decide)
            have h80 := h80.kept eG18
            change ab_W _ _ _ (List.set G 80 (ab_ob 12 (mof 1 m_taped m_length m_out m_wide m_gathered m_sets m_ranges m_nodes m_at m_flags m_fault m_place m_numbered m_depth m_value m_isNot m_least0 m_most0 m_slot m_work m_got m_rowMany m_charAt m_charWide m_trail m_isMatch m_matchGroups m_allFrom m_allBefore m_founds m_pieces m_writtenMany m_templateWide m_tooMuch))) 49 [some (vR 80), some (vz s), some (vz how), some (vz mc), some (vz fm), none] [] _
            rw [← eG18]
            refine ab_aload_n d_MO_match_49 rfl ?_
            refine ab_getf (fs := mof 1 m_taped m_length m_out m_wide m_gathered m_sets m_ranges m_nodes m_at m_flags m_fault m_place m_numbered m_depth m_value m_isNot m_least0 m_most0 m_slot m_work m_got m_rowMany m_charAt m_charWide m_trail m_isMatch m_matchGroups m_allFrom m_allBefore m_founds m_pieces m_writtenMany m_templateWide m_tooMuch) f_MO_220 d_MO_match_50 h80.2.2 rfl ?_
            refine zz_if_le (tgt := 58) d_MO_match_53 (by decide) (by decide) (fun c19 => absurd c19 (by decide)) (fun c19 => ?_)
            refine zz_iconst d_MO_match_56 ?_
            refine zz_iret rfl d_MO_match_57 ?_
            rw [hQ]; exact ⟨_, _, _, _, _, _, _, _, _, _, _, _, _, _, _, _, _, _, _, rfl, hfr, hlen, hsl, h80, h135, h136, h137, h144, h138, h142, h143, h140, h141, h134, h139, (by first | exact jn | exact rgs_w jn (by omega)), (by first | exact jse | exact rgs_w jse (by omega)), (by first | exact jsp | exact rgs_w jsp (by omega)), (by first | exact jpt | exact rgs_w jpt (by omega)), (by first | exact jts | exact rgs_w jts (by omega)), (by first | exact jto | exact rgs_w jto (by omega)), (by first | exact jke | exact rgs_w jke (by omega)), (by omega)⟩
          · refine ab_iload d_MO_match_27 rfl ?_
            refine zz_if_lt (tgt := 41) d_MO_match_29 (by decide) (by omega) (fun c20 => ?_) (fun c20 => ?_)
            · refine zz_iconst d_MO_match_41 ?_
              refine ab_goto (tgt := 46) d_MO_match_42 (by decide) ?_
              refine ab_putf (fs := mof m_thrown m_taped m_length m_out m_wide m_gathered m_sets m_ranges m_nodes m_at m_flags m_fault m_place m_numbered m_depth m_value m_isNot m_least0 m_most0 m_slot m_work m_got m_rowMany m_charAt m_charWide m_trail m_isMatch m_matchGroups m_allFrom m_allBefore m_founds m_pieces m_writtenMany m_templateWide m_tooMuch) f_MO_220 (Or.inl rfl) d_MO_match_46 h80.2.2 (Nat.le_of_ble_eq_true rfl) (fun _ => ⟨rfl, rfl⟩) (h80.2.1 (by decide)) ?_
              obtain ⟨G21, eG21⟩ : ∃ z : ab_G, z = List.set G 80 (ab_ob 12 (mof 1 m_taped m_length m_out m_wide m_gathered m_sets m_ranges m_nodes m_at m_flags m_fault m_place m_numbered m_depth m_value m_isNot m_least0 m_most0 m_slot m_work m_got m_rowMany m_charAt m_charWide m_trail m_isMatch m_matchGroups m_allFrom m_allBefore m_founds m_pieces m_writtenMany m_templateWide m_tooMuch)) := ⟨_, rfl⟩
              have h139 := h139.keep h80 eG21 (by decide)
              have h134 := h134.keep h80 eG21 (by decide)
              have h135 := h135.keep h80 eG21 (by decide)
              have h136 := h136.keep h80 eG21 (by decide)
              have h137 := h137.keep h80 eG21 (by decide)
              have h144 := h144.keep h80 eG21 (by decide)
              have h138 := h138.keep h80 eG21 (by decide)
              have h142 := h142.keep h80 eG21 (by decide)
              have h143 := h143.keep h80 eG21 (by decide)
              have h140 := h140.keep h80 eG21 (by decide)
              have h141 := h141.keep h80 eG21 (by decide)
              have h112 := h112.keep h80 eG21 (by decide)
              have h114 := h114.keep h80 eG21 (by decide)
              have h116 := h116.keep h80 eG21 (by decide)
              have h118 := h118.keep h80 eG21 (by decide)
              have h119 := h119.keep h80 eG21 (by decide)
              have h120 := h120.keep h80 eG21 (by decide)
              have h121 := h121.keep h80 eG21 (by decide)
              have h122 := h122.keep h80 eG21 (by decide)
              have h123 := h123.keep h80 eG21 (by decide)
              have h124 := h124.keep h80 eG21 (by decide)
              have h85 := h85.keep h80 eG21 (by decide)
              have h117 := h117.keep h80 eG21 (by decide)
              have h113 := h113.keep h80 eG21 (by decide)
              have hlen := (z_len eG21).trans hlen
              have hsl := (z_sl h80 eG21 rfl).trans hsl
              have hfr := hfr.wr h80 eG21 (by decide)
              have h80 := h80.kept eG21
              change ab_W _ _ _ (List.set G 80 (ab_ob 12 (mof 1 m_taped m_length m_out m_wide m_gathered m_sets m_ranges m_nodes m_at m_flags m_fault m_place m_numbered m_depth m_value m_isNot m_least0 m_most0 m_slot m_work m_got m_rowMany m_charAt m_charWide m_trail m_isMatch m_matchGroups m_allFrom m_allBefore m_founds m_pieces m_writtenMany m_templateWide m_tooMuch))) 49 [some (vR 80), some (vz s), some (vz how), some (vz mc), some (vz fm), none] [] _
              rw [← eG21]
              refine ab_aload_n d_MO_match_49 rfl ?_
              refine ab_getf (fs := mof 1 m_taped m_length m_out m_wide m_gathered m_sets m_ranges m_nodes m_at m_flags m_fault m_place m_numbered m_depth m_value m_isNot m_least0 m_most0 m_slot m_work m_got m_rowMany m_charAt m_charWide m_trail m_isMatch m_matchGroups m_allFrom m_allBefore m_founds m_pieces m_writtenMany m_templateWide m_tooMuch) f_MO_220 d_MO_match_50 h80.2.2 rfl ?_
              refine zz_if_le (tgt := 58) d_MO_match_53 (by decide) (by decide) (fun c22 => absurd c22 (by decide)) (fun c22 => ?_)
              refine zz_iconst d_MO_match_56 ?_
              refine zz_iret rfl d_MO_match_57 ?_
              rw [hQ]; exact ⟨_, _, _, _, _, _, _, _, _, _, _, _, _, _, _, _, _, _, _, rfl, hfr, hlen, hsl, h80, h135, h136, h137, h144, h138, h142, h143, h140, h141, h134, h139, (by first | exact jn | exact rgs_w jn (by omega)), (by first | exact jse | exact rgs_w jse (by omega)), (by first | exact jsp | exact rgs_w jsp (by omega)), (by first | exact jpt | exact rgs_w jpt (by omega)), (by first | exact jts | exact rgs_w jts (by omega)), (by first | exact jto | exact rgs_w jto (by omega)), (by first | exact jke | exact rgs_w jke (by omega)), (by omega)⟩
            · refine ab_iload d_MO_match_32 rfl ?_
              refine ab_aload_n d_MO_match_34 rfl ?_
              refine ab_getf (fs := mof m_thrown m_taped m_length m_out m_wide m_gathered m_sets m_ranges m_nodes m_at m_flags m_fault m_place m_numbered m_depth m_value m_isNot m_least0 m_most0 m_slot m_work m_got m_rowMany m_charAt m_charWide m_trail m_isMatch m_matchGroups m_allFrom m_allBefore m_founds m_pieces m_writtenMany m_templateWide m_tooMuch) f_MO_510 d_MO_match_35 h80.2.2 rfl ?_
              refine zz_icmp_le (tgt := 45) d_MO_match_38 (by decide) (by omega) (by omega) (fun c23 => ?_) (fun c23 => ?_)
              · refine zz_iconst d_MO_match_45 ?_
                refine ab_putf (fs := mof m_thrown m_taped m_length m_out m_wide m_gathered m_sets m_ranges m_nodes m_at m_flags m_fault m_place m_numbered m_depth m_value m_isNot m_least0 m_most0 m_slot m_work m_got m_rowMany m_charAt m_charWide m_trail m_isMatch m_matchGroups m_allFrom m_allBefore m_founds m_pieces m_writtenMany m_templateWide m_tooMuch) f_MO_220 (Or.inl rfl) d_MO_match_46 h80.2.2 (Nat.le_of_ble_eq_true rfl) (fun _ => ⟨rfl, rfl⟩) (h80.2.1 (by decide)) ?_
                obtain ⟨G24, eG24⟩ : ∃ z : ab_G, z = List.set G 80 (ab_ob 12 (mof 0 m_taped m_length m_out m_wide m_gathered m_sets m_ranges m_nodes m_at m_flags m_fault m_place m_numbered m_depth m_value m_isNot m_least0 m_most0 m_slot m_work m_got m_rowMany m_charAt m_charWide m_trail m_isMatch m_matchGroups m_allFrom m_allBefore m_founds m_pieces m_writtenMany m_templateWide m_tooMuch)) := ⟨_, rfl⟩
                have h139 := h139.keep h80 eG24 (by decide)
                have h134 := h134.keep h80 eG24 (by decide)
                have h135 := h135.keep h80 eG24 (by decide)
                have h136 := h136.keep h80 eG24 (by decide)
                have h137 := h137.keep h80 eG24 (by decide)
                have h144 := h144.keep h80 eG24 (by decide)
                have h138 := h138.keep h80 eG24 (by decide)
                have h142 := h142.keep h80 eG24 (by decide)
                have h143 := h143.keep h80 eG24 (by decide)
                have h140 := h140.keep h80 eG24 (by decide)
                have h141 := h141.keep h80 eG24 (by decide)
                have h112 := h112.keep h80 eG24 (by decide)
                have h114 := h114.keep h80 eG24 (by decide)
                have h116 := h116.keep h80 eG24 (by decide)
                have h118 := h118.keep h80 eG24 (by decide)
                have h119 := h119.keep h80 eG24 (by decide)
                have h120 := h120.keep h80 eG24 (by decide)
                have h121 := h121.keep h80 eG24 (by decide)
                have h122 := h122.keep h80 eG24 (by decide)
                have h123 := h123.keep h80 eG24 (by decide)
                have h124 := h124.keep h80 eG24 (by decide)
                have h85 := h85.keep h80 eG24 (by decide)
                have h117 := h117.keep h80 eG24 (by decide)
                have h113 := h113.keep h80 eG24 (by decide)
                have hlen := (z_len eG24).trans hlen
                have hsl := (z_sl h80 eG24 rfl).trans hsl
                have hfr := hfr.wr h80 eG24 (by decide)
                have h80 := h80.kept eG24
                change ab_W _ _ _ (List.set G 80 (ab_ob 12 (mof 0 m_taped m_length m_out m_wide m_gathered m_sets m_ranges m_nodes m_at m_flags m_fault m_place m_numbered m_depth m_value m_isNot m_least0 m_most0 m_slot m_work m_got m_rowMany m_charAt m_charWide m_trail m_isMatch m_matchGroups m_allFrom m_allBefore m_founds m_pieces m_writtenMany m_templateWide m_tooMuch))) 49 [some (vR 80), some (vz s), some (vz how), some (vz mc), some (vz fm), none] [] _
                rw [← eG24]
                refine ab_aload_n d_MO_match_49 rfl ?_
                refine ab_getf (fs := mof 0 m_taped m_length m_out m_wide m_gathered m_sets m_ranges m_nodes m_at m_flags m_fault m_place m_numbered m_depth m_value m_isNot m_least0 m_most0 m_slot m_work m_got m_rowMany m_charAt m_charWide m_trail m_isMatch m_matchGroups m_allFrom m_allBefore m_founds m_pieces m_writtenMany m_templateWide m_tooMuch) f_MO_220 d_MO_match_50 h80.2.2 rfl ?_
                refine zz_if_le (tgt := 58) d_MO_match_53 (by decide) (by decide) (fun c25 => ?_) (fun c25 => absurd c25 (by decide))
                obtain ⟨hp1_, hp2_, hp3_, hp4_, hp5_⟩ := jpg s (by omega) (by omega) (hq4 (by omega)).2.2
                refine ab_iload_n d_MO_match_58 rfl ?_
                refine zz_iconst d_MO_match_59 ?_
                refine zz_icmp_ne (tgt := 123) d_MO_match_60 (by decide) (by omega) (by decide) (fun c26 => ?_) (fun c26 => ?_)
                · refine ab_aload_n d_MO_match_123 rfl ?_
                  refine ab_aload_n d_MO_match_124 rfl ?_
                  refine ab_getf (fs := mof 0 m_taped m_length m_out m_wide m_gathered m_sets m_ranges m_nodes m_at m_flags m_fault m_place m_numbered m_depth m_value m_isNot m_least0 m_most0 m_slot m_work m_got m_rowMany m_charAt m_charWide m_trail m_isMatch m_matchGroups m_allFrom m_allBefore m_founds m_pieces m_writtenMany m_templateWide m_tooMuch) f_MO_178 d_MO_match_125 h80.2.2 rfl ?_
                  refine ab_iload_n d_MO_match_128 rfl ?_
                  refine ab_aload_n d_MO_match_129 rfl ?_
                  refine ab_getf (fs := mof 0 m_taped m_length m_out m_wide m_gathered m_sets m_ranges m_nodes m_at m_flags m_fault m_place m_numbered m_depth m_value m_isNot m_least0 m_most0 m_slot m_work m_got m_rowMany m_charAt m_charWide m_trail m_isMatch m_matchGroups m_allFrom m_allBefore m_founds m_pieces m_writtenMany m_templateWide m_tooMuch) f_MO_510 d_MO_match_130 h80.2.2 rfl ?_
                  refine ab_iload d_MO_match_133 rfl ?_
                  refine zz_iconst d_MO_match_135 ?_
                  refine ab_callV (d' := d - 1) (as := [vR 134, vz s, vz m_length, vz fm, vz 0]) (st := []) (r := _) (z_MO_note (o := o) (m_thrown := 0) (m_taped := m_taped) (m_length := m_length) (m_out := m_out) (m_wide := m_wide) (m_gathered := m_gathered) (m_sets := m_sets) (m_ranges := m_ranges) (m_nodes := m_nodes) (m_at := m_at) (m_flags := m_flags) (m_fault := m_fault) (m_place := m_place) (m_numbered := m_numbered) (m_depth := m_depth) (m_value := m_value) (m_isNot := m_isNot) (m_least0 := m_least0) (m_most0 := m_most0) (m_slot := m_slot) (m_work := m_work) (m_got := m_got) (m_rowMany := m_rowMany) (m_charAt := m_charAt) (m_charWide := m_charWide) (m_trail := m_trail) (m_isMatch := m_isMatch) (m_matchGroups := m_matchGroups) (m_allFrom := m_allFrom) (m_allBefore := m_allBefore) (m_founds := m_founds) (m_pieces := m_pieces) (m_writtenMany := m_writtenMany) (m_templateWide := m_templateWide) (m_tooMuch := m_tooMuch) (A_subject := A_subject) (A_stepMany := A_stepMany) (A_step := A_step) (A_next := A_next) (A_more := A_more) (A_classAt := A_classAt) (A_classMany := A_classMany) (A_classLow := A_classLow) (A_classHigh := A_classHigh) (no := 134) (lno := 334) (NO := CN) (Z := ZN) (s := s) (fr := m_length) (to := fm) (al := 0) h80 h134 h137 h118 h119 h120 h121 h122 h123 h124 h85 h117 (by omega) (by omega) (by omega) (by omega) hp5_ jst jcl jch jsb (by omega) jn (by omega)) (fun oc G2 h => by rcases h with ⟨_, _, _, _, _, h, _⟩ <;> exact ⟨_, h⟩) (by omega) m_MO_note ml_MO_559 im_MO_note se_MO_note c_MO h80.2.2 (Nat.le_of_ble_eq_true rfl) d_MO_match_136 rfl ?_
                  intro v G27 hq
                  rcases hq with ⟨NO228, Z229, w230, c231, cw232, hv, hfk, hlk, hsk, hN80, hN134, hN137, hq33, hq34, hq35⟩
                  cases hv
                  have h139 := hfk.get h139 (by decide)
                  have h135 := hfk.get h135 (by decide)
                  have h136 := hfk.get h136 (by decide)
                  have h144 := hfk.get h144 (by decide)
                  have h138 := hfk.get h138 (by decide)
                  have h142 := hfk.get h142 (by decide)
                  have h143 := hfk.get h143 (by decide)
                  have h140 := hfk.get h140 (by decide)
                  have h141 := hfk.get h141 (by decide)
                  have h112 := hfk.get h112 (by decide)
                  have h114 := hfk.get h114 (by decide)
                  have h116 := hfk.get h116 (by decide)
                  have h118 := hfk.get h118 (by decide)
                  have h119 := hfk.get h119 (by decide)
                  have h120 := hfk.get h120 (by decide)
                  have h121 := hfk.get h121 (by decide)
                  have h122 := hfk.get h122 (by decide)
                  have h123 := hfk.get h123 (by decide)
                  have h124 := hfk.get h124 (by decide)
                  have h85 := hfk.get h85 (by decide)
                  have h117 := hfk.get h117 (by decide)
                  have h113 := hfk.get h113 (by decide)
                  have hfr := hfr.tr hfk (by decide)
                  have hlen := hlk.trans hlen
                  have hsl := hsk.trans hsl
                  have h80 := hN80
                  have h134 := hN134
                  have h137 := hN137
                  change ab_W _ _ _ G27 139 [some (vR 80), some (vz s), some (vz how), some (vz mc), some (vz fm), none] [] _
                  refine ab_aload_n d_MO_match_139 rfl ?_
                  refine ab_aload_n d_MO_match_140 rfl ?_
                  refine ab_iload_n d_MO_match_141 rfl ?_
                  refine ab_iload d_MO_match_142 rfl ?_
                  refine ab_iload_n d_MO_match_144 rfl ?_
                  refine zz_if_ne (tgt := 152) d_MO_match_145 (by decide) (by omega) (fun c36 => ?_) (fun c36 => ?_)
                  · refine zz_iconst d_MO_match_152 ?_
                    refine ab_callV (d' := d - 1) (as := [vz s, vz fm, vz 0]) (st := [vR 80]) (r := _) (z_MO_find (o := o) (m_thrown := 0) (m_taped := m_taped) (m_length := m_length) (m_out := m_out) (m_wide := w230) (m_gathered := m_gathered) (m_sets := m_sets) (m_ranges := m_ranges) (m_nodes := m_nodes) (m_at := m_at) (m_flags := m_flags) (m_fault := m_fault) (m_place := m_place) (m_numbered := m_numbered) (m_depth := m_depth) (m_value := m_value) (m_isNot := m_isNot) (m_least0 := m_least0) (m_most0 := m_most0) (m_slot := m_slot) (m_work := m_work) (m_got := m_got) (m_rowMany := m_rowMany) (m_charAt := c231) (m_charWide := cw232) (m_trail := m_trail) (m_isMatch := m_isMatch) (m_matchGroups := m_matchGroups) (m_allFrom := m_allFrom) (m_allBefore := m_allBefore) (m_founds := m_founds) (m_pieces := m_pieces) (m_writtenMany := m_writtenMany) (m_templateWide := m_templateWide) (m_tooMuch := m_tooMuch) (A_flagsOf := A_flagsOf) (A_step := A_step) (A_next := A_next) (A_more := A_more) (A_classAt := A_classAt) (A_classMany := A_classMany) (A_classLow := A_classLow) (A_classHigh := A_classHigh) (A_subject := A_subject) (A_stepMany := A_stepMany) (A_entry := A_entry) (CN := NO228) (JU := JU) (CO := CO) (ZN := Z229) (ZS := ZS) (SP := SP) (PL := PL) (PT := PT) (TS := TS) (TO := TO) (s := s) (fm := fm) (sr := 0) (to := fm) h80 h134 h135 h136 h137 h144 h138 h142 h143 h140 h141 h116 h118 h119 h120 h121 h122 h123 h124 h85 h117 h113 (by omega) (by omega) (by omega) hp5_ jst jcl jch jsb (by omega) (by omega) (by omega) hq34 hq33 jse jsp jpt jts jto (by omega)) (fun oc G2 h => by rcases h with ⟨_, _, _, _, _, _, _, _, _, _, _, _, _, h, _⟩ | ⟨_, _, _, _, _, _, _, _, _, _, _, _, _, h, _⟩ <;> exact ⟨_, h⟩) (by omega) m_MO_find ml_MO_566 im_MO_find se_MO_find c_MO h80.2.2 (Nat.le_of_ble_eq_true rfl) d_MO_match_153 rfl ?_
                    intro v G37 hq
                    rcases hq with ⟨w238, c239, cw240, t241, JU242, CO243, ZN244, ZS245, SP246, PL247, PT248, TS249, TO250, hv, hfk, hlk, hsk, hN80, hN135, hN136, hN137, hN144, hN138, hN142, hN143, hN140, hN141, hq51, hq52, hq53, hq54, hq55, hq56, hq57⟩ | ⟨w258, c259, cw260, t261, JU262, CO263, ZN264, ZS265, SP266, PL267, PT268, TS269, TO270, hv, hfk, hlk, hsk, hN80, hN135, hN136, hN137, hN144, hN138, hN142, hN143, hN140, hN141, hq71, hq72, hq73, hq74, hq75, hq76⟩
                    · cases hv
                      have h139 := hfk.get h139 (by decide)
                      have h134 := hfk.get h134 (by decide)
                      have h112 := hfk.get h112 (by decide)
                      have h114 := hfk.get h114 (by decide)
                      have h116 := hfk.get h116 (by decide)
                      have h118 := hfk.get h118 (by decide)
                      have h119 := hfk.get h119 (by decide)
                      have h120 := hfk.get h120 (by decide)
                      have h121 := hfk.get h121 (by decide)
                      have h122 := hfk.get h122 (by decide)
                      have h123 := hfk.get h123 (by decide)
                      have h124 := hfk.get h124 (by decide)
                      have h85 := hfk.get h85 (by decide)
                      have h117 := hfk.get h117 (by decide)
                      have h113 := hfk.get h113 (by decide)
                      have hfr := hfr.tr hfk (by decide)
                      have hlen := hlk.trans hlen
                      have hsl := hsk.trans hsl
                      have h80 := hN80
                      have h135 := hN135
                      have h136 := hN136
                      have h137 := hN137
                      have h144 := hN144
                      have h138 := hN138
                      have h142 := hN142
                      have h143 := hN143
                      have h140 := hN140
                      have h141 := hN141
                      change ab_W _ _ _ G37 156 [some (vR 80), some (vz s), some (vz how), some (vz mc), some (vz fm), none] [vz 1, vR 80] _
                      refine ab_putf (fs := mof 0 m_taped m_length m_out w238 m_gathered m_sets m_ranges m_nodes m_at m_flags m_fault m_place m_numbered m_depth m_value m_isNot m_least0 m_most0 m_slot m_work m_got m_rowMany c239 cw240 t241 m_isMatch m_matchGroups m_allFrom m_allBefore m_founds m_pieces m_writtenMany m_templateWide m_tooMuch) f_MO_563 (Or.inl rfl) d_MO_match_156 h80.2.2 (Nat.le_of_ble_eq_true rfl) (ab_fbz (by decide)) (h80.2.1 (by decide)) ?_
                      obtain ⟨G77, eG77⟩ : ∃ z : ab_G, z = List.set G37 80 (ab_ob 12 (mof 0 m_taped m_length m_out w238 m_gathered m_sets m_ranges m_nodes m_at m_flags m_fault m_place m_numbered m_depth m_value m_isNot m_least0 m_most0 m_slot m_work m_got m_rowMany c239 cw240 t241 1 m_matchGroups m_allFrom m_allBefore m_founds m_pieces m_writtenMany m_templateWide m_tooMuch)) := ⟨_, rfl⟩
                      have h139 := h139.keep h80 eG77 (by decide)
                      have h134 := h134.keep h80 eG77 (by decide)
                      have h135 := h135.keep h80 eG77 (by decide)
                      have h136 := h136.keep h80 eG77 (by decide)
                      have h137 := h137.keep h80 eG77 (by decide)
                      have h144 := h144.keep h80 eG77 (by decide)
                      have h138 := h138.keep h80 eG77 (by decide)
                      have h142 := h142.keep h80 eG77 (by decide)
                      have h143 := h143.keep h80 eG77 (by decide)
                      have h140 := h140.keep h80 eG77 (by decide)
                      have h141 := h141.keep h80 eG77 (by decide)
                      have h112 := h112.keep h80 eG77 (by decide)
                      have h114 := h114.keep h80 eG77 (by decide)
                      have h116 := h116.keep h80 eG77 (by decide)
                      have h118 := h118.keep h80 eG77 (by decide)
                      have h119 := h119.keep h80 eG77 (by decide)
                      have h120 := h120.keep h80 eG77 (by decide)
                      have h121 := h121.keep h80 eG77 (by decide)
                      have h122 := h122.keep h80 eG77 (by decide)
                      have h123 := h123.keep h80 eG77 (by decide)
                      have h124 := h124.keep h80 eG77 (by decide)
                      have h85 := h85.keep h80 eG77 (by decide)
                      have h117 := h117.keep h80 eG77 (by decide)
                      have h113 := h113.keep h80 eG77 (by decide)
                      have hlen := (z_len eG77).trans hlen
                      have hsl := (z_sl h80 eG77 rfl).trans hsl
                      have hfr := hfr.wr h80 eG77 (by decide)
                      have h80 := h80.kept eG77
                      change ab_W _ _ _ (List.set G37 80 (ab_ob 12 (mof 0 m_taped m_length m_out w238 m_gathered m_sets m_ranges m_nodes m_at m_flags m_fault m_place m_numbered m_depth m_value m_isNot m_least0 m_most0 m_slot m_work m_got m_rowMany c239 cw240 t241 1 m_matchGroups m_allFrom m_allBefore m_founds m_pieces m_writtenMany m_templateWide m_tooMuch))) 159 [some (vR 80), some (vz s), some (vz how), some (vz mc), some (vz fm), none] [] _
                      rw [← eG77]
                      refine zz_iconst d_MO_match_159 ?_
                      refine ab_istore d_MO_match_160 (Nat.le_of_ble_eq_true rfl) (Nat.le_of_ble_eq_true rfl) rfl ?_
                      change ab_W _ _ _ G77 162 [some (vR 80), some (vz s), some (vz how), some (vz mc), some (vz fm), some (vz 0)] [] _
                      refine ab_less (L' := [some (vR 80), some (vz s), none, none, none, some (vz 0)]) (fun i v h => by rcases i with _ | _ | _ | _ | _ | _ | i <;> first | exact h | (simp at h)) ?_
                      refine y_MO_match_162 (m_thrown := 0) (m_taped := m_taped) (m_length := m_length) (m_out := m_out) (m_wide := w238) (m_gathered := m_gathered) (m_sets := m_sets) (m_ranges := m_ranges) (m_nodes := m_nodes) (m_at := m_at) (m_flags := m_flags) (m_fault := m_fault) (m_place := m_place) (m_numbered := m_numbered) (m_depth := m_depth) (m_value := m_value) (m_isNot := m_isNot) (m_least0 := m_least0) (m_most0 := m_most0) (m_slot := m_slot) (m_work := m_work) (m_got := m_got) (m_rowMany := m_rowMany) (m_charAt := c239) (m_charWide := cw240) (m_trail := t241) (m_isMatch := 1) (m_matchGroups := m_matchGroups) (m_allFrom := m_allFrom) (m_allBefore := m_allBefore) (m_founds := m_founds) (m_pieces := m_pieces) (m_writtenMany := m_writtenMany) (m_templateWide := m_templateWide) (m_tooMuch := m_tooMuch) (SP := SP246) (s := s) (G0 := G77) (i_ := 0) (KE := KE) (by omega) hq53 (by omega) (Int.toNat (20 - 0) + 1) h80 h138 h139 (by omega) jke fx.rf rfl rfl (by omega) (fun G78 KE279 hN139 hq80 hfk hlk hsk => ?_)
                      · have h80 := hfk.get h80 (by decide)
                        have h134 := hfk.get h134 (by decide)
                        have h135 := hfk.get h135 (by decide)
                        have h136 := hfk.get h136 (by decide)
                        have h137 := hfk.get h137 (by decide)
                        have h144 := hfk.get h144 (by decide)
                        have h138 := hfk.get h138 (by decide)
                        have h142 := hfk.get h142 (by decide)
                        have h143 := hfk.get h143 (by decide)
                        have h140 := hfk.get h140 (by decide)
                        have h141 := hfk.get h141 (by decide)
                        have h112 := hfk.get h112 (by decide)
                        have h114 := hfk.get h114 (by decide)
                        have h116 := hfk.get h116 (by decide)
                        have h118 := hfk.get h118 (by decide)
                        have h119 := hfk.get h119 (by decide)
                        have h120 := hfk.get h120 (by decide)
                        have h121 := hfk.get h121 (by decide)
                        have h122 := hfk.get h122 (by decide)
                        have h123 := hfk.get h123 (by decide)
                        have h124 := hfk.get h124 (by decide)
                        have h85 := hfk.get h85 (by decide)
                        have h117 := hfk.get h117 (by decide)
                        have h113 := hfk.get h113 (by decide)
                        have hfr := hfr.tr hfk (by decide)
                        have hlen := hlk.trans hlen
                        have hsl := hsk.trans hsl
                        have h139 := hN139
                        change ab_W _ _ _ G78 189 [some (vR 80), some (vz s), none, none, none, none] [] _
                        refine ab_aload_n d_MO_match_189 rfl ?_
                        refine ab_aload_n d_MO_match_190 rfl ?_
                        refine ab_getf (fs := mof 0 m_taped m_length m_out w238 m_gathered m_sets m_ranges m_nodes m_at m_flags m_fault m_place m_numbered m_depth m_value m_isNot m_least0 m_most0 m_slot m_work m_got m_rowMany c239 cw240 t241 1 m_matchGroups m_allFrom m_allBefore m_founds m_pieces m_writtenMany m_templateWide m_tooMuch) f_MO_115 d_MO_match_191 h80.2.2 rfl ?_
                        refine ab_iload_n d_MO_match_194 rfl ?_
                        refine zz_iald d_MO_match_195 h114 (by omega) ?_
                        refine ab_putf (fs := mof 0 m_taped m_length m_out w238 m_gathered m_sets m_ranges m_nodes m_at m_flags m_fault m_place m_numbered m_depth m_value m_isNot m_least0 m_most0 m_slot m_work m_got m_rowMany c239 cw240 t241 1 m_matchGroups m_allFrom m_allBefore m_founds m_pieces m_writtenMany m_templateWide m_tooMuch) f_MO_570 (Or.inl rfl) d_MO_match_196 h80.2.2 (Nat.le_of_ble_eq_true rfl) (fun _ => ⟨rfl, rfl⟩) (h80.2.1 (by decide)) ?_
                        obtain ⟨G81, eG81⟩ : ∃ z : ab_G, z = List.set G78 80 (ab_ob 12 (mof 0 m_taped m_length m_out w238 m_gathered m_sets m_ranges m_nodes m_at m_flags m_fault m_place m_numbered m_depth m_value m_isNot m_least0 m_most0 m_slot m_work m_got m_rowMany c239 cw240 t241 1 (A_groupsOf s) m_allFrom m_allBefore m_founds m_pieces m_writtenMany m_templateWide m_tooMuch)) := ⟨_, rfl⟩
                        have h139 := h139.keep h80 eG81 (by decide)
                        have h134 := h134.keep h80 eG81 (by decide)
                        have h135 := h135.keep h80 eG81 (by decide)
                        have h136 := h136.keep h80 eG81 (by decide)
                        have h137 := h137.keep h80 eG81 (by decide)
                        have h144 := h144.keep h80 eG81 (by decide)
                        have h138 := h138.keep h80 eG81 (by decide)
                        have h142 := h142.keep h80 eG81 (by decide)
                        have h143 := h143.keep h80 eG81 (by decide)
                        have h140 := h140.keep h80 eG81 (by decide)
                        have h141 := h141.keep h80 eG81 (by decide)
                        have h112 := h112.keep h80 eG81 (by decide)
                        have h114 := h114.keep h80 eG81 (by decide)
                        have h116 := h116.keep h80 eG81 (by decide)
                        have h118 := h118.keep h80 eG81 (by decide)
                        have h119 := h119.keep h80 eG81 (by decide)
                        have h120 := h120.keep h80 eG81 (by decide)
                        have h121 := h121.keep h80 eG81 (by decide)
                        have h122 := h122.keep h80 eG81 (by decide)
                        have h123 := h123.keep h80 eG81 (by decide)
                        have h124 := h124.keep h80 eG81 (by decide)
                        have h85 := h85.keep h80 eG81 (by decide)
                        have h117 := h117.keep h80 eG81 (by decide)
                        have h113 := h113.keep h80 eG81 (by decide)
                        have hlen := (z_len eG81).trans hlen
                        have hsl := (z_sl h80 eG81 rfl).trans hsl
                        have hfr := hfr.wr h80 eG81 (by decide)
                        have h80 := h80.kept eG81
                        change ab_W _ _ _ (List.set G78 80 (ab_ob 12 (mof 0 m_taped m_length m_out w238 m_gathered m_sets m_ranges m_nodes m_at m_flags m_fault m_place m_numbered m_depth m_value m_isNot m_least0 m_most0 m_slot m_work m_got m_rowMany c239 cw240 t241 1 (A_groupsOf s) m_allFrom m_allBefore m_founds m_pieces m_writtenMany m_templateWide m_tooMuch))) 199 [some (vR 80), some (vz s), none, none, none, none] [] _
                        rw [← eG81]
                        refine ab_aload_n d_MO_match_199 rfl ?_
                        refine ab_getf (fs := mof 0 m_taped m_length m_out w238 m_gathered m_sets m_ranges m_nodes m_at m_flags m_fault m_place m_numbered m_depth m_value m_isNot m_least0 m_most0 m_slot m_work m_got m_rowMany c239 cw240 t241 1 (A_groupsOf s) m_allFrom m_allBefore m_founds m_pieces m_writtenMany m_templateWide m_tooMuch) f_MO_563 d_MO_match_200 h80.2.2 rfl ?_
                        refine zz_if_eq (tgt := 215) d_MO_match_203 (by decide) (by decide) (fun c82 => absurd c82 (by decide)) (fun c82 => ?_)
                        refine ab_aload_n d_MO_match_206 rfl ?_
                        refine ab_getf (fs := mof 0 m_taped m_length m_out w238 m_gathered m_sets m_ranges m_nodes m_at m_flags m_fault m_place m_numbered m_depth m_value m_isNot m_least0 m_most0 m_slot m_work m_got m_rowMany c239 cw240 t241 1 (A_groupsOf s) m_allFrom m_allBefore m_founds m_pieces m_writtenMany m_templateWide m_tooMuch) f_MO_193 d_MO_match_207 h80.2.2 rfl ?_
                        refine zz_iconst d_MO_match_210 ?_
                        refine zz_iald d_MO_match_211 h139 (by omega) ?_
                        refine ab_goto (tgt := 216) d_MO_match_212 (by decide) ?_
                        refine zz_iret rfl d_MO_match_216 ?_
                        rw [hQ]; exact ⟨_, _, _, _, _, _, _, _, _, _, _, _, _, _, _, _, _, _, _, rfl, hfr, hlen, hsl, h80, h135, h136, h137, h144, h138, h142, h143, h140, h141, h134, h139, (by first | exact hq51 | exact rgs_w hq51 (by omega)), (by first | exact hq52 | exact rgs_w hq52 (by omega)), (by first | exact hq53 | exact rgs_w hq53 (by omega)), (by first | exact hq54 | exact rgs_w hq54 (by omega)), (by first | exact hq55 | exact rgs_w hq55 (by omega)), (by first | exact hq56 | exact rgs_w hq56 (by omega)), (by first | exact hq80 | exact rgs_w hq80 (by omega)), (by omega)⟩
                    · cases hv
                      have h139 := hfk.get h139 (by decide)
                      have h134 := hfk.get h134 (by decide)
                      have h112 := hfk.get h112 (by decide)
                      have h114 := hfk.get h114 (by decide)
                      have h116 := hfk.get h116 (by decide)
                      have h118 := hfk.get h118 (by decide)
                      have h119 := hfk.get h119 (by decide)
                      have h120 := hfk.get h120 (by decide)
                      have h121 := hfk.get h121 (by decide)
                      have h122 := hfk.get h122 (by decide)
                      have h123 := hfk.get h123 (by decide)
                      have h124 := hfk.get h124 (by decide)
                      have h85 := hfk.get h85 (by decide)
                      have h117 := hfk.get h117 (by decide)
                      have h113 := hfk.get h113 (by decide)
                      have hfr := hfr.tr hfk (by decide)
                      have hlen := hlk.trans hlen
                      have hsl := hsk.trans hsl
                      have h80 := hN80
                      have h135 := hN135
                      have h136 := hN136
                      have h137 := hN137
                      have h144 := hN144
                      have h138 := hN138
                      have h142 := hN142
                      have h143 := hN143
                      have h140 := hN140
                      have h141 := hN141
                      change ab_W _ _ _ G37 156 [some (vR 80), some (vz s), some (vz how), some (vz mc), some (vz fm), none] [vz 0, vR 80] _
                      refine ab_putf (fs := mof 0 m_taped m_length m_out w258 m_gathered m_sets m_ranges m_nodes m_at m_flags m_fault m_place m_numbered m_depth m_value m_isNot m_least0 m_most0 m_slot m_work m_got m_rowMany c259 cw260 t261 m_isMatch m_matchGroups m_allFrom m_allBefore m_founds m_pieces m_writtenMany m_templateWide m_tooMuch) f_MO_563 (Or.inl rfl) d_MO_match_156 h80.2.2 (Nat.le_of_ble_eq_true rfl) (ab_fbz (by decide)) (h80.2.1 (by decide)) ?_
                      obtain ⟨G83, eG83⟩ : ∃ z : ab_G, z = List.set G37 80 (ab_ob 12 (mof 0 m_taped m_length m_out w258 m_gathered m_sets m_ranges m_nodes m_at m_flags m_fault m_place m_numbered m_depth m_value m_isNot m_least0 m_most0 m_slot m_work m_got m_rowMany c259 cw260 t261 0 m_matchGroups m_allFrom m_allBefore m_founds m_pieces m_writtenMany m_templateWide m_tooMuch)) := ⟨_, rfl⟩
                      have h139 := h139.keep h80 eG83 (by decide)
                      have h134 := h134.keep h80 eG83 (by decide)
                      have h135 := h135.keep h80 eG83 (by decide)
                      have h136 := h136.keep h80 eG83 (by decide)
                      have h137 := h137.keep h80 eG83 (by decide)
                      have h144 := h144.keep h80 eG83 (by decide)
                      have h138 := h138.keep h80 eG83 (by decide)
                      have h142 := h142.keep h80 eG83 (by decide)
                      have h143 := h143.keep h80 eG83 (by decide)
                      have h140 := h140.keep h80 eG83 (by decide)
                      have h141 := h141.keep h80 eG83 (by decide)
                      have h112 := h112.keep h80 eG83 (by decide)
                      have h114 := h114.keep h80 eG83 (by decide)
                      have h116 := h116.keep h80 eG83 (by decide)
                      have h118 := h118.keep h80 eG83 (by decide)
                      have h119 := h119.keep h80 eG83 (by decide)
                      have h120 := h120.keep h80 eG83 (by decide)
                      have h121 := h121.keep h80 eG83 (by decide)
                      have h122 := h122.keep h80 eG83 (by decide)
                      have h123 := h123.keep h80 eG83 (by decide)
                      have h124 := h124.keep h80 eG83 (by decide)
                      have h85 := h85.keep h80 eG83 (by decide)
                      have h117 := h117.keep h80 eG83 (by decide)
                      have h113 := h113.keep h80 eG83 (by decide)
                      have hlen := (z_len eG83).trans hlen
                      have hsl := (z_sl h80 eG83 rfl).trans hsl
                      have hfr := hfr.wr h80 eG83 (by decide)
                      have h80 := h80.kept eG83
                      change ab_W _ _ _ (List.set G37 80 (ab_ob 12 (mof 0 m_taped m_length m_out w258 m_gathered m_sets m_ranges m_nodes m_at m_flags m_fault m_place m_numbered m_depth m_value m_isNot m_least0 m_most0 m_slot m_work m_got m_rowMany c259 cw260 t261 0 m_matchGroups m_allFrom m_allBefore m_founds m_pieces m_writtenMany m_templateWide m_tooMuch))) 159 [some (vR 80), some (vz s), some (vz how), some (vz mc), some (vz fm), none] [] _
                      rw [← eG83]
                      refine zz_iconst d_MO_match_159 ?_
                      refine ab_istore d_MO_match_160 (Nat.le_of_ble_eq_true rfl) (Nat.le_of_ble_eq_true rfl) rfl ?_
                      change ab_W _ _ _ G83 162 [some (vR 80), some (vz s), some (vz how), some (vz mc), some (vz fm), some (vz 0)] [] _
                      refine ab_less (L' := [some (vR 80), some (vz s), none, none, none, some (vz 0)]) (fun i v h => by rcases i with _ | _ | _ | _ | _ | _ | i <;> first | exact h | (simp at h)) ?_
                      refine y_MO_match_162 (m_thrown := 0) (m_taped := m_taped) (m_length := m_length) (m_out := m_out) (m_wide := w258) (m_gathered := m_gathered) (m_sets := m_sets) (m_ranges := m_ranges) (m_nodes := m_nodes) (m_at := m_at) (m_flags := m_flags) (m_fault := m_fault) (m_place := m_place) (m_numbered := m_numbered) (m_depth := m_depth) (m_value := m_value) (m_isNot := m_isNot) (m_least0 := m_least0) (m_most0 := m_most0) (m_slot := m_slot) (m_work := m_work) (m_got := m_got) (m_rowMany := m_rowMany) (m_charAt := c259) (m_charWide := cw260) (m_trail := t261) (m_isMatch := 0) (m_matchGroups := m_matchGroups) (m_allFrom := m_allFrom) (m_allBefore := m_allBefore) (m_founds := m_founds) (m_pieces := m_pieces) (m_writtenMany := m_writtenMany) (m_templateWide := m_templateWide) (m_tooMuch := m_tooMuch) (SP := SP266) (s := s) (G0 := G83) (i_ := 0) (KE := KE) (by omega) hq73 (by omega) (Int.toNat (20 - 0) + 1) h80 h138 h139 (by omega) jke fx.rf rfl rfl (by omega) (fun G84 KE285 hN139 hq86 hfk hlk hsk => ?_)
                      · have h80 := hfk.get h80 (by decide)
                        have h134 := hfk.get h134 (by decide)
                        have h135 := hfk.get h135 (by decide)
                        have h136 := hfk.get h136 (by decide)
                        have h137 := hfk.get h137 (by decide)
                        have h144 := hfk.get h144 (by decide)
                        have h138 := hfk.get h138 (by decide)
                        have h142 := hfk.get h142 (by decide)
                        have h143 := hfk.get h143 (by decide)
                        have h140 := hfk.get h140 (by decide)
                        have h141 := hfk.get h141 (by decide)
                        have h112 := hfk.get h112 (by decide)
                        have h114 := hfk.get h114 (by decide)
                        have h116 := hfk.get h116 (by decide)
                        have h118 := hfk.get h118 (by decide)
                        have h119 := hfk.get h119 (by decide)
                        have h120 := hfk.get h120 (by decide)
                        have h121 := hfk.get h121 (by decide)
                        have h122 := hfk.get h122 (by decide)
                        have h123 := hfk.get h123 (by decide)
                        have h124 := hfk.get h124 (by decide)
                        have h85 := hfk.get h85 (by decide)
                        have h117 := hfk.get h117 (by decide)
                        have h113 := hfk.get h113 (by decide)
                        have hfr := hfr.tr hfk (by decide)
                        have hlen := hlk.trans hlen
                        have hsl := hsk.trans hsl
                        have h139 := hN139
                        change ab_W _ _ _ G84 189 [some (vR 80), some (vz s), none, none, none, none] [] _
                        refine ab_aload_n d_MO_match_189 rfl ?_
                        refine ab_aload_n d_MO_match_190 rfl ?_
                        refine ab_getf (fs := mof 0 m_taped m_length m_out w258 m_gathered m_sets m_ranges m_nodes m_at m_flags m_fault m_place m_numbered m_depth m_value m_isNot m_least0 m_most0 m_slot m_work m_got m_rowMany c259 cw260 t261 0 m_matchGroups m_allFrom m_allBefore m_founds m_pieces m_writtenMany m_templateWide m_tooMuch) f_MO_115 d_MO_match_191 h80.2.2 rfl ?_
                        refine ab_iload_n d_MO_match_194 rfl ?_
                        refine zz_iald d_MO_match_195 h114 (by omega) ?_
                        refine ab_putf (fs := mof 0 m_taped m_length m_out w258 m_gathered m_sets m_ranges m_nodes m_at m_flags m_fault m_place m_numbered m_depth m_value m_isNot m_least0 m_most0 m_slot m_work m_got m_rowMany c259 cw260 t261 0 m_matchGroups m_allFrom m_allBefore m_founds m_pieces m_writtenMany m_templateWide m_tooMuch) f_MO_570 (Or.inl rfl) d_MO_match_196 h80.2.2 (Nat.le_of_ble_eq_true rfl) (fun _ => ⟨rfl, rfl⟩) (h80.2.1 (by decide)) ?_
                        obtain ⟨G87, eG87⟩ : ∃ z : ab_G, z = List.set G84 80 (ab_ob 12 (mof 0 m_taped m_length m_out w258 m_gathered m_sets m_ranges m_nodes m_at m_flags m_fault m_place m_numbered m_depth m_value m_isNot m_least0 m_most0 m_slot m_work m_got m_rowMany c259 cw260 t261 0 (A_groupsOf s) m_allFrom m_allBefore m_founds m_pieces m_writtenMany m_templateWide m_tooMuch)) := ⟨_, rfl⟩
                        have h139 := h139.keep h80 eG87 (by decide)
                        have h134 := h134.keep h80 eG87 (by decide)
                        have h135 := h135.keep h80 eG87 (by decide)
                        have h136 := h136.keep h80 eG87 (by decide)
                        have h137 := h137.keep h80 eG87 (by decide)
                        have h144 := h144.keep h80 eG87 (by decide)
                        have h138 := h138.keep h80 eG87 (by decide)
                        have h142 := h142.keep h80 eG87 (by decide)
                        have h143 := h143.keep h80 eG87 (by decide)
                        have h140 := h140.keep h80 eG87 (by decide)
                        have h141 := h141.keep h80 eG87 (by decide)
                        have h112 := h112.keep h80 eG87 (by decide)
                        have h114 := h114.keep h80 eG87 (by decide)
                        have h116 := h116.keep h80 eG87 (by decide)
                        have h118 := h118.keep h80 eG87 (by decide)
                        have h119 := h119.keep h80 eG87 (by decide)
                        have h120 := h120.keep h80 eG87 (by decide)
                        have h121 := h121.keep h80 eG87 (by decide)
                        have h122 := h122.keep h80 eG87 (by decide)
                        have h123 := h123.keep h80 eG87 (by decide)
                        have h124 := h124.keep h80 eG87 (by decide)
                        have h85 := h85.keep h80 eG87 (by decide)
                        have h117 := h117.keep h80 eG87 (by decide)
                        have h113 := h113.keep h80 eG87 (by decide)
                        have hlen := (z_len eG87).trans hlen
                        have hsl := (z_sl h80 eG87 rfl).trans hsl
                        have hfr := hfr.wr h80 eG87 (by decide)
                        have h80 := h80.kept eG87
                        change ab_W _ _ _ (List.set G84 80 (ab_ob 12 (mof 0 m_taped m_length m_out w258 m_gathered m_sets m_ranges m_nodes m_at m_flags m_fault m_place m_numbered m_depth m_value m_isNot m_least0 m_most0 m_slot m_work m_got m_rowMany c259 cw260 t261 0 (A_groupsOf s) m_allFrom m_allBefore m_founds m_pieces m_writtenMany m_templateWide m_tooMuch))) 199 [some (vR 80), some (vz s), none, none, none, none] [] _
                        rw [← eG87]
                        refine ab_aload_n d_MO_match_199 rfl ?_
                        refine ab_getf (fs := mof 0 m_taped m_length m_out w258 m_gathered m_sets m_ranges m_nodes m_at m_flags m_fault m_place m_numbered m_depth m_value m_isNot m_least0 m_most0 m_slot m_work m_got m_rowMany c259 cw260 t261 0 (A_groupsOf s) m_allFrom m_allBefore m_founds m_pieces m_writtenMany m_templateWide m_tooMuch) f_MO_563 d_MO_match_200 h80.2.2 rfl ?_
                        refine zz_if_eq (tgt := 215) d_MO_match_203 (by decide) (by decide) (fun c88 => ?_) (fun c88 => absurd c88 (by decide))
                        refine zz_iconst d_MO_match_215 ?_
                        refine zz_iret rfl d_MO_match_216 ?_
                        rw [hQ]; exact ⟨_, _, _, _, _, _, _, _, _, _, _, _, _, _, _, _, _, _, _, rfl, hfr, hlen, hsl, h80, h135, h136, h137, h144, h138, h142, h143, h140, h141, h134, h139, (by first | exact hq71 | exact rgs_w hq71 (by omega)), (by first | exact hq72 | exact rgs_w hq72 (by omega)), (by first | exact hq73 | exact rgs_w hq73 (by omega)), (by first | exact hq74 | exact rgs_w hq74 (by omega)), (by first | exact hq75 | exact rgs_w hq75 (by omega)), (by first | exact hq76 | exact rgs_w hq76 (by omega)), (by first | exact hq86 | exact rgs_w hq86 (by omega)), (by omega)⟩
                  · refine zz_iconst d_MO_match_148 ?_
                    refine ab_goto (tgt := 153) d_MO_match_149 (by decide) ?_
                    refine ab_callV (d' := d - 1) (as := [vz s, vz fm, vz 1]) (st := [vR 80]) (r := _) (z_MO_find (o := o) (m_thrown := 0) (m_taped := m_taped) (m_length := m_length) (m_out := m_out) (m_wide := w230) (m_gathered := m_gathered) (m_sets := m_sets) (m_ranges := m_ranges) (m_nodes := m_nodes) (m_at := m_at) (m_flags := m_flags) (m_fault := m_fault) (m_place := m_place) (m_numbered := m_numbered) (m_depth := m_depth) (m_value := m_value) (m_isNot := m_isNot) (m_least0 := m_least0) (m_most0 := m_most0) (m_slot := m_slot) (m_work := m_work) (m_got := m_got) (m_rowMany := m_rowMany) (m_charAt := c231) (m_charWide := cw232) (m_trail := m_trail) (m_isMatch := m_isMatch) (m_matchGroups := m_matchGroups) (m_allFrom := m_allFrom) (m_allBefore := m_allBefore) (m_founds := m_founds) (m_pieces := m_pieces) (m_writtenMany := m_writtenMany) (m_templateWide := m_templateWide) (m_tooMuch := m_tooMuch) (A_flagsOf := A_flagsOf) (A_step := A_step) (A_next := A_next) (A_more := A_more) (A_classAt := A_classAt) (A_classMany := A_classMany) (A_classLow := A_classLow) (A_classHigh := A_classHigh) (A_subject := A_subject) (A_stepMany := A_stepMany) (A_entry := A_entry) (CN := NO228) (JU := JU) (CO := CO) (ZN := Z229) (ZS := ZS) (SP := SP) (PL := PL) (PT := PT) (TS := TS) (TO := TO) (s := s) (fm := fm) (sr := 1) (to := fm) h80 h134 h135 h136 h137 h144 h138 h142 h143 h140 h141 h116 h118 h119 h120 h121 h122 h123 h124 h85 h117 h113 (by omega) (by omega) (by omega) hp5_ jst jcl jch jsb (by omega) (by omega) (by omega) hq34 hq33 jse jsp jpt jts jto (by omega)) (fun oc G2 h => by rcases h with ⟨_, _, _, _, _, _, _, _, _, _, _, _, _, h, _⟩ | ⟨_, _, _, _, _, _, _, _, _, _, _, _, _, h, _⟩ <;> exact ⟨_, h⟩) (by omega) m_MO_find ml_MO_566 im_MO_find se_MO_find c_MO h80.2.2 (Nat.le_of_ble_eq_true rfl) d_MO_match_153 rfl ?_
                    intro v G89 hq
                    rcases hq with ⟨w290, c291, cw292, t293, JU294, CO295, ZN296, ZS297, SP298, PL299, PT2100, TS2101, TO2102, hv, hfk, hlk, hsk, hN80, hN135, hN136, hN137, hN144, hN138, hN142, hN143, hN140, hN141, hq103, hq104, hq105, hq106, hq107, hq108, hq109⟩ | ⟨w2110, c2111, cw2112, t2113, JU2114, CO2115, ZN2116, ZS2117, SP2118, PL2119, PT2120, TS2121, TO2122, hv, hfk, hlk, hsk, hN80, hN135, hN136, hN137, hN144, hN138, hN142, hN143, hN140, hN141, hq123, hq124, hq125, hq126, hq127, hq128⟩
                    · cases hv
                      have h139 := hfk.get h139 (by decide)
                      have h134 := hfk.get h134 (by decide)
                      have h112 := hfk.get h112 (by decide)
                      have h114 := hfk.get h114 (by decide)
                      have h116 := hfk.get h116 (by decide)
                      have h118 := hfk.get h118 (by decide)
                      have h119 := hfk.get h119 (by decide)
                      have h120 := hfk.get h120 (by decide)
                      have h121 := hfk.get h121 (by decide)
                      have h122 := hfk.get h122 (by decide)
                      have h123 := hfk.get h123 (by decide)
                      have h124 := hfk.get h124 (by decide)
                      have h85 := hfk.get h85 (by decide)
                      have h117 := hfk.get h117 (by decide)
                      have h113 := hfk.get h113 (by decide)
                      have hfr := hfr.tr hfk (by decide)
                      have hlen := hlk.trans hlen
                      have hsl := hsk.trans hsl
                      have h80 := hN80
                      have h135 := hN135
                      have h136 := hN136
                      have h137 := hN137
                      have h144 := hN144
                      have h138 := hN138
                      have h142 := hN142
                      have h143 := hN143
                      have h140 := hN140
                      have h141 := hN141
                      change ab_W _ _ _ G89 156 [some (vR 80), some (vz s), some (vz how), some (vz mc), some (vz fm), none] [vz 1, vR 80] _
                      refine ab_putf (fs := mof 0 m_taped m_length m_out w290 m_gathered m_sets m_ranges m_nodes m_at m_flags m_fault m_place m_numbered m_depth m_value m_isNot m_least0 m_most0 m_slot m_work m_got m_rowMany c291 cw292 t293 m_isMatch m_matchGroups m_allFrom m_allBefore m_founds m_pieces m_writtenMany m_templateWide m_tooMuch) f_MO_563 (Or.inl rfl) d_MO_match_156 h80.2.2 (Nat.le_of_ble_eq_true rfl) (ab_fbz (by decide)) (h80.2.1 (by decide)) ?_
                      obtain ⟨G129, eG129⟩ : ∃ z : ab_G, z = List.set G89 80 (ab_ob 12 (mof 0 m_taped m_length m_out w290 m_gathered m_sets m_ranges m_nodes m_at m_flags m_fault m_place m_numbered m_depth m_value m_isNot m_least0 m_most0 m_slot m_work m_got m_rowMany c291 cw292 t293 1 m_matchGroups m_allFrom m_allBefore m_founds m_pieces m_writtenMany m_templateWide m_tooMuch)) := ⟨_, rfl⟩
                      have h139 := h139.keep h80 eG129 (by decide)
                      have h134 := h134.keep h80 eG129 (by decide)
                      have h135 := h135.keep h80 eG129 (by decide)
                      have h136 := h136.keep h80 eG129 (by decide)
                      have h137 := h137.keep h80 eG129 (by decide)
                      have h144 := h144.keep h80 eG129 (by decide)
                      have h138 := h138.keep h80 eG129 (by decide)
                      have h142 := h142.keep h80 eG129 (by decide)
                      have h143 := h143.keep h80 eG129 (by decide)
                      have h140 := h140.keep h80 eG129 (by decide)
                      have h141 := h141.keep h80 eG129 (by decide)
                      have h112 := h112.keep h80 eG129 (by decide)
                      have h114 := h114.keep h80 eG129 (by decide)
                      have h116 := h116.keep h80 eG129 (by decide)
                      have h118 := h118.keep h80 eG129 (by decide)
                      have h119 := h119.keep h80 eG129 (by decide)
                      have h120 := h120.keep h80 eG129 (by decide)
                      have h121 := h121.keep h80 eG129 (by decide)
                      have h122 := h122.keep h80 eG129 (by decide)
                      have h123 := h123.keep h80 eG129 (by decide)
                      have h124 := h124.keep h80 eG129 (by decide)
                      have h85 := h85.keep h80 eG129 (by decide)
                      have h117 := h117.keep h80 eG129 (by decide)
                      have h113 := h113.keep h80 eG129 (by decide)
                      have hlen := (z_len eG129).trans hlen
                      have hsl := (z_sl h80 eG129 rfl).trans hsl
                      have hfr := hfr.wr h80 eG129 (by decide)
                      have h80 := h80.kept eG129
                      change ab_W _ _ _ (List.set G89 80 (ab_ob 12 (mof 0 m_taped m_length m_out w290 m_gathered m_sets m_ranges m_nodes m_at m_flags m_fault m_place m_numbered m_depth m_value m_isNot m_least0 m_most0 m_slot m_work m_got m_rowMany c291 cw292 t293 1 m_matchGroups m_allFrom m_allBefore m_founds m_pieces m_writtenMany m_templateWide m_tooMuch))) 159 [some (vR 80), some (vz s), some (vz how), some (vz mc), some (vz fm), none] [] _
                      rw [← eG129]
                      refine zz_iconst d_MO_match_159 ?_
                      refine ab_istore d_MO_match_160 (Nat.le_of_ble_eq_true rfl) (Nat.le_of_ble_eq_true rfl) rfl ?_
                      change ab_W _ _ _ G129 162 [some (vR 80), some (vz s), some (vz how), some (vz mc), some (vz fm), some (vz 0)] [] _
                      refine ab_less (L' := [some (vR 80), some (vz s), none, none, none, some (vz 0)]) (fun i v h => by rcases i with _ | _ | _ | _ | _ | _ | i <;> first | exact h | (simp at h)) ?_
                      refine y_MO_match_162 (m_thrown := 0) (m_taped := m_taped) (m_length := m_length) (m_out := m_out) (m_wide := w290) (m_gathered := m_gathered) (m_sets := m_sets) (m_ranges := m_ranges) (m_nodes := m_nodes) (m_at := m_at) (m_flags := m_flags) (m_fault := m_fault) (m_place := m_place) (m_numbered := m_numbered) (m_depth := m_depth) (m_value := m_value) (m_isNot := m_isNot) (m_least0 := m_least0) (m_most0 := m_most0) (m_slot := m_slot) (m_work := m_work) (m_got := m_got) (m_rowMany := m_rowMany) (m_charAt := c291) (m_charWide := cw292) (m_trail := t293) (m_isMatch := 1) (m_matchGroups := m_matchGroups) (m_allFrom := m_allFrom) (m_allBefore := m_allBefore) (m_founds := m_founds) (m_pieces := m_pieces) (m_writtenMany := m_writtenMany) (m_templateWide := m_templateWide) (m_tooMuch := m_tooMuch) (SP := SP298) (s := s) (G0 := G129) (i_ := 0) (KE := KE) (by omega) hq105 (by omega) (Int.toNat (20 - 0) + 1) h80 h138 h139 (by omega) jke fx.rf rfl rfl (by omega) (fun G130 KE2131 hN139 hq132 hfk hlk hsk => ?_)
                      · have h80 := hfk.get h80 (by decide)
                        have h134 := hfk.get h134 (by decide)
                        have h135 := hfk.get h135 (by decide)
                        have h136 := hfk.get h136 (by decide)
                        have h137 := hfk.get h137 (by decide)
                        have h144 := hfk.get h144 (by decide)
                        have h138 := hfk.get h138 (by decide)
                        have h142 := hfk.get h142 (by decide)
                        have h143 := hfk.get h143 (by decide)
                        have h140 := hfk.get h140 (by decide)
                        have h141 := hfk.get h141 (by decide)
                        have h112 := hfk.get h112 (by decide)
                        have h114 := hfk.get h114 (by decide)
                        have h116 := hfk.get h116 (by decide)
                        have h118 := hfk.get h118 (by decide)
                        have h119 := hfk.get h119 (by decide)
                        have h120 := hfk.get h120 (by decide)
                        have h121 := hfk.get h121 (by decide)
                        have h122 := hfk.get h122 (by decide)
                        have h123 := hfk.get h123 (by decide)
                        have h124 := hfk.get h124 (by decide)
                        have h85 := hfk.get h85 (by decide)
                        have h117 := hfk.get h117 (by decide)
                        have h113 := hfk.get h113 (by decide)
                        have hfr := hfr.tr hfk (by decide)
                        have hlen := hlk.trans hlen
                        have hsl := hsk.trans hsl
                        have h139 := hN139
                        change ab_W _ _ _ G130 189 [some (vR 80), some (vz s), none, none, none, none] [] _
                        refine ab_aload_n d_MO_match_189 rfl ?_
                        refine ab_aload_n d_MO_match_190 rfl ?_
                        refine ab_getf (fs := mof 0 m_taped m_length m_out w290 m_gathered m_sets m_ranges m_nodes m_at m_flags m_fault m_place m_numbered m_depth m_value m_isNot m_least0 m_most0 m_slot m_work m_got m_rowMany c291 cw292 t293 1 m_matchGroups m_allFrom m_allBefore m_founds m_pieces m_writtenMany m_templateWide m_tooMuch) f_MO_115 d_MO_match_191 h80.2.2 rfl ?_
                        refine ab_iload_n d_MO_match_194 rfl ?_
                        refine zz_iald d_MO_match_195 h114 (by omega) ?_
                        refine ab_putf (fs := mof 0 m_taped m_length m_out w290 m_gathered m_sets m_ranges m_nodes m_at m_flags m_fault m_place m_numbered m_depth m_value m_isNot m_least0 m_most0 m_slot m_work m_got m_rowMany c291 cw292 t293 1 m_matchGroups m_allFrom m_allBefore m_founds m_pieces m_writtenMany m_templateWide m_tooMuch) f_MO_570 (Or.inl rfl) d_MO_match_196 h80.2.2 (Nat.le_of_ble_eq_true rfl) (fun _ => ⟨rfl, rfl⟩) (h80.2.1 (by decide)) ?_
                        obtain ⟨G133, eG133⟩ : ∃ z : ab_G, z = List.set G130 80 (ab_ob 12 (mof 0 m_taped m_length m_out w290 m_gathered m_sets m_ranges m_nodes m_at m_flags m_fault m_place m_numbered m_depth m_value m_isNot m_least0 m_most0 m_slot m_work m_got m_rowMany c291 cw292 t293 1 (A_groupsOf s) m_allFrom m_allBefore m_founds m_pieces m_writtenMany m_templateWide m_tooMuch)) := ⟨_, rfl⟩
                        have h139 := h139.keep h80 eG133 (by decide)
                        have h134 := h134.keep h80 eG133 (by decide)
                        have h135 := h135.keep h80 eG133 (by decide)
                        have h136 := h136.keep h80 eG133 (by decide)
                        have h137 := h137.keep h80 eG133 (by decide)
                        have h144 := h144.keep h80 eG133 (by decide)
                        have h138 := h138.keep h80 eG133 (by decide)
                        have h142 := h142.keep h80 eG133 (by decide)
                        have h143 := h143.keep h80 eG133 (by decide)
                        have h140 := h140.keep h80 eG133 (by decide)
                        have h141 := h141.keep h80 eG133 (by decide)
                        have h112 := h112.keep h80 eG133 (by decide)
                        have h114 := h114.keep h80 eG133 (by decide)
                        have h116 := h116.keep h80 eG133 (by decide)
                        have h118 := h118.keep h80 eG133 (by decide)
                        have h119 := h119.keep h80 eG133 (by decide)
                        have h120 := h120.keep h80 eG133 (by decide)
                        have h121 := h121.keep h80 eG133 (by decide)
                        have h122 := h122.keep h80 eG133 (by decide)
                        have h123 := h123.keep h80 eG133 (by decide)
                        have h124 := h124.keep h80 eG133 (by decide)
                        have h85 := h85.keep h80 eG133 (by decide)
                        have h117 := h117.keep h80 eG133 (by decide)
                        have h113 := h113.keep h80 eG133 (by decide)
                        have hlen := (z_len eG133).trans hlen
                        have hsl := (z_sl h80 eG133 rfl).trans hsl
                        have hfr := hfr.wr h80 eG133 (by decide)
                        have h80 := h80.kept eG133
                        change ab_W _ _ _ (List.set G130 80 (ab_ob 12 (mof 0 m_taped m_length m_out w290 m_gathered m_sets m_ranges m_nodes m_at m_flags m_fault m_place m_numbered m_depth m_value m_isNot m_least0 m_most0 m_slot m_work m_got m_rowMany c291 cw292 t293 1 (A_groupsOf s) m_allFrom m_allBefore m_founds m_pieces m_writtenMany m_templateWide m_tooMuch))) 199 [some (vR 80), some (vz s), none, none, none, none] [] _
                        rw [← eG133]
                        refine ab_aload_n d_MO_match_199 rfl ?_
                        refine ab_getf (fs := mof 0 m_taped m_length m_out w290 m_gathered m_sets m_ranges m_nodes m_at m_flags m_fault m_place m_numbered m_depth m_value m_isNot m_least0 m_most0 m_slot m_work m_got m_rowMany c291 cw292 t293 1 (A_groupsOf s) m_allFrom m_allBefore m_founds m_pieces m_writtenMany m_templateWide m_tooMuch) f_MO_563 d_MO_match_200 h80.2.2 rfl ?_
                        refine zz_if_eq (tgt := 215) d_MO_match_203 (by decide) (by decide) (fun c134 => absurd c134 (by decide)) (fun c134 => ?_)
                        refine ab_aload_n d_MO_match_206 rfl ?_
                        refine ab_getf (fs := mof 0 m_taped m_length m_out w290 m_gathered m_sets m_ranges m_nodes m_at m_flags m_fault m_place m_numbered m_depth m_value m_isNot m_least0 m_most0 m_slot m_work m_got m_rowMany c291 cw292 t293 1 (A_groupsOf s) m_allFrom m_allBefore m_founds m_pieces m_writtenMany m_templateWide m_tooMuch) f_MO_193 d_MO_match_207 h80.2.2 rfl ?_
                        refine zz_iconst d_MO_match_210 ?_
                        refine zz_iald d_MO_match_211 h139 (by omega) ?_
                        refine ab_goto (tgt := 216) d_MO_match_212 (by decide) ?_
                        refine zz_iret rfl d_MO_match_216 ?_
                        rw [hQ]; exact ⟨_, _, _, _, _, _, _, _, _, _, _, _, _, _, _, _, _, _, _, rfl, hfr, hlen, hsl, h80, h135, h136, h137, h144, h138, h142, h143, h140, h141, h134, h139, (by first | exact hq103 | exact rgs_w hq103 (by omega)), (by first | exact hq104 | exact rgs_w hq104 (by omega)), (by first | exact hq105 | exact rgs_w hq105 (by omega)), (by first | exact hq106 | exact rgs_w hq106 (by omega)), (by first | exact hq107 | exact rgs_w hq107 (by omega)), (by first | exact hq108 | exact rgs_w hq108 (by omega)), (by first | exact hq132 | exact rgs_w hq132 (by omega)), (by omega)⟩
                    · cases hv
                      have h139 := hfk.get h139 (by decide)
                      have h134 := hfk.get h134 (by decide)
                      have h112 := hfk.get h112 (by decide)
                      have h114 := hfk.get h114 (by decide)
                      have h116 := hfk.get h116 (by decide)
                      have h118 := hfk.get h118 (by decide)
                      have h119 := hfk.get h119 (by decide)
                      have h120 := hfk.get h120 (by decide)
                      have h121 := hfk.get h121 (by decide)
                      have h122 := hfk.get h122 (by decide)
                      have h123 := hfk.get h123 (by decide)
                      have h124 := hfk.get h124 (by decide)
                      have h85 := hfk.get h85 (by decide)
                      have h117 := hfk.get h117 (by decide)
                      have h113 := hfk.get h113 (by decide)
                      have hfr := hfr.tr hfk (by decide)
                      have hlen := hlk.trans hlen
                      have hsl := hsk.trans hsl
                      have h80 := hN80
                      have h135 := hN135
                      have h136 := hN136
                      have h137 := hN137
                      have h144 := hN144
                      have h138 := hN138
                      have h142 := hN142
                      have h143 := hN143
                      have h140 := hN140
                      have h141 := hN141
                      change ab_W _ _ _ G89 156 [some (vR 80), some (vz s), some (vz how), some (vz mc), some (vz fm), none] [vz 0, vR 80] _
                      refine ab_putf (fs := mof 0 m_taped m_length m_out w2110 m_gathered m_sets m_ranges m_nodes m_at m_flags m_fault m_place m_numbered m_depth m_value m_isNot m_least0 m_most0 m_slot m_work m_got m_rowMany c2111 cw2112 t2113 m_isMatch m_matchGroups m_allFrom m_allBefore m_founds m_pieces m_writtenMany m_templateWide m_tooMuch) f_MO_563 (Or.inl rfl) d_MO_match_156 h80.2.2 (Nat.le_of_ble_eq_true rfl) (ab_fbz (by decide)) (h80.2.1 (by decide)) ?_
                      obtain ⟨G135, eG135⟩ : ∃ z : ab_G, z = List.set G89 80 (ab_ob 12 (mof 0 m_taped m_length m_out w2110 m_gathered m_sets m_ranges m_nodes m_at m_flags m_fault m_place m_numbered m_depth m_value m_isNot m_least0 m_most0 m_slot m_work m_got m_rowMany c2111 cw2112 t2113 0 m_matchGroups m_allFrom m_allBefore m_founds m_pieces m_writtenMany m_templateWide m_tooMuch)) := ⟨_, rfl⟩
                      have h139 := h139.keep h80 eG135 (by decide)
                      have h134 := h134.keep h80 eG135 (by decide)
                      have h135 := h135.keep h80 eG135 (by decide)
                      have h136 := h136.keep h80 eG135 (by decide)
                      have h137 := h137.keep h80 eG135 (by decide)
                      have h144 := h144.keep h80 eG135 (by decide)
                      have h138 := h138.keep h80 eG135 (by decide)
                      have h142 := h142.keep h80 eG135 (by decide)
                      have h143 := h143.keep h80 eG135 (by decide)
                      have h140 := h140.keep h80 eG135 (by decide)
                      have h141 := h141.keep h80 eG135 (by decide)
                      have h112 := h112.keep h80 eG135 (by decide)
                      have h114 := h114.keep h80 eG135 (by decide)
                      have h116 := h116.keep h80 eG135 (by decide)
                      have h118 := h118.keep h80 eG135 (by decide)
                      have h119 := h119.keep h80 eG135 (by decide)
                      have h120 := h120.keep h80 eG135 (by decide)
                      have h121 := h121.keep h80 eG135 (by decide)
                      have h122 := h122.keep h80 eG135 (by decide)
                      have h123 := h123.keep h80 eG135 (by decide)
                      have h124 := h124.keep h80 eG135 (by decide)
                      have h85 := h85.keep h80 eG135 (by decide)
                      have h117 := h117.keep h80 eG135 (by decide)
                      have h113 := h113.keep h80 eG135 (by decide)
                      have hlen := (z_len eG135).trans hlen
                      have hsl := (z_sl h80 eG135 rfl).trans hsl
                      have hfr := hfr.wr h80 eG135 (by decide)
                      have h80 := h80.kept eG135
                      change ab_W _ _ _ (List.set G89 80 (ab_ob 12 (mof 0 m_taped m_length m_out w2110 m_gathered m_sets m_ranges m_nodes m_at m_flags m_fault m_place m_numbered m_depth m_value m_isNot m_least0 m_most0 m_slot m_work m_got m_rowMany c2111 cw2112 t2113 0 m_matchGroups m_allFrom m_allBefore m_founds m_pieces m_writtenMany m_templateWide m_tooMuch))) 159 [some (vR 80), some (vz s), some (vz how), some (vz mc), some (vz fm), none] [] _
                      rw [← eG135]
                      refine zz_iconst d_MO_match_159 ?_
                      refine ab_istore d_MO_match_160 (Nat.le_of_ble_eq_true rfl) (Nat.le_of_ble_eq_true rfl) rfl ?_
                      change ab_W _ _ _ G135 162 [some (vR 80), some (vz s), some (vz how), some (vz mc), some (vz fm), some (vz 0)] [] _
                      refine ab_less (L' := [some (vR 80), some (vz s), none, none, none, some (vz 0)]) (fun i v h => by rcases i with _ | _ | _ | _ | _ | _ | i <;> first | exact h | (simp at h)) ?_
                      refine y_MO_match_162 (m_thrown := 0) (m_taped := m_taped) (m_length := m_length) (m_out := m_out) (m_wide := w2110) (m_gathered := m_gathered) (m_sets := m_sets) (m_ranges := m_ranges) (m_nodes := m_nodes) (m_at := m_at) (m_flags := m_flags) (m_fault := m_fault) (m_place := m_place) (m_numbered := m_numbered) (m_depth := m_depth) (m_value := m_value) (m_isNot := m_isNot) (m_least0 := m_least0) (m_most0 := m_most0) (m_slot := m_slot) (m_work := m_work) (m_got := m_got) (m_rowMany := m_rowMany) (m_charAt := c2111) (m_charWide := cw2112) (m_trail := t2113) (m_isMatch := 0) (m_matchGroups := m_matchGroups) (m_allFrom := m_allFrom) (m_allBefore := m_allBefore) (m_founds := m_founds) (m_pieces := m_pieces) (m_writtenMany := m_writtenMany) (m_templateWide := m_templateWide) (m_tooMuch := m_tooMuch) (SP := SP2118) (s := s) (G0 := G135) (i_ := 0) (KE := KE) (by omega) hq125 (by omega) (Int.toNat (20 - 0) + 1) h80 h138 h139 (by omega) jke fx.rf rfl rfl (by omega) (fun G136 KE2137 hN139 hq138 hfk hlk hsk => ?_)
                      · have h80 := hfk.get h80 (by decide)
                        have h134 := hfk.get h134 (by decide)
                        have h135 := hfk.get h135 (by decide)
                        have h136 := hfk.get h136 (by decide)
                        have h137 := hfk.get h137 (by decide)
                        have h144 := hfk.get h144 (by decide)
                        have h138 := hfk.get h138 (by decide)
                        have h142 := hfk.get h142 (by decide)
                        have h143 := hfk.get h143 (by decide)
                        have h140 := hfk.get h140 (by decide)
                        have h141 := hfk.get h141 (by decide)
                        have h112 := hfk.get h112 (by decide)
                        have h114 := hfk.get h114 (by decide)
                        have h116 := hfk.get h116 (by decide)
                        have h118 := hfk.get h118 (by decide)
                        have h119 := hfk.get h119 (by decide)
                        have h120 := hfk.get h120 (by decide)
                        have h121 := hfk.get h121 (by decide)
                        have h122 := hfk.get h122 (by decide)
                        have h123 := hfk.get h123 (by decide)
                        have h124 := hfk.get h124 (by decide)
                        have h85 := hfk.get h85 (by decide)
                        have h117 := hfk.get h117 (by decide)
                        have h113 := hfk.get h113 (by decide)
                        have hfr := hfr.tr hfk (by decide)
                        have hlen := hlk.trans hlen
                        have hsl := hsk.trans hsl
                        have h139 := hN139
                        change ab_W _ _ _ G136 189 [some (vR 80), some (vz s), none, none, none, none] [] _
                        refine ab_aload_n d_MO_match_189 rfl ?_
                        refine ab_aload_n d_MO_match_190 rfl ?_
                        refine ab_getf (fs := mof 0 m_taped m_length m_out w2110 m_gathered m_sets m_ranges m_nodes m_at m_flags m_fault m_place m_numbered m_depth m_value m_isNot m_least0 m_most0 m_slot m_work m_got m_rowMany c2111 cw2112 t2113 0 m_matchGroups m_allFrom m_allBefore m_founds m_pieces m_writtenMany m_templateWide m_tooMuch) f_MO_115 d_MO_match_191 h80.2.2 rfl ?_
                        refine ab_iload_n d_MO_match_194 rfl ?_
                        refine zz_iald d_MO_match_195 h114 (by omega) ?_
                        refine ab_putf (fs := mof 0 m_taped m_length m_out w2110 m_gathered m_sets m_ranges m_nodes m_at m_flags m_fault m_place m_numbered m_depth m_value m_isNot m_least0 m_most0 m_slot m_work m_got m_rowMany c2111 cw2112 t2113 0 m_matchGroups m_allFrom m_allBefore m_founds m_pieces m_writtenMany m_templateWide m_tooMuch) f_MO_570 (Or.inl rfl) d_MO_match_196 h80.2.2 (Nat.le_of_ble_eq_true rfl) (fun _ => ⟨rfl, rfl⟩) (h80.2.1 (by decide)) ?_
                        obtain ⟨G139, eG139⟩ : ∃ z : ab_G, z = List.set G136 80 (ab_ob 12 (mof 0 m_taped m_length m_out w2110 m_gathered m_sets m_ranges m_nodes m_at m_flags m_fault m_place m_numbered m_depth m_value m_isNot m_least0 m_most0 m_slot m_work m_got m_rowMany c2111 cw2112 t2113 0 (A_groupsOf s) m_allFrom m_allBefore m_founds m_pieces m_writtenMany m_templateWide m_tooMuch)) := ⟨_, rfl⟩
                        have h139 := h139.keep h80 eG139 (by decide)
                        have h134 := h134.keep h80 eG139 (by decide)
                        have h135 := h135.keep h80 eG139 (by decide)
                        have h136 := h136.keep h80 eG139 (by decide)
                        have h137 := h137.keep h80 eG139 (by decide)
                        have h144 := h144.keep h80 eG139 (by decide)
                        have h138 := h138.keep h80 eG139 (by decide)
                        have h142 := h142.keep h80 eG139 (by decide)
                        have h143 := h143.keep h80 eG139 (by decide)
                        have h140 := h140.keep h80 eG139 (by decide)
                        have h141 := h141.keep h80 eG139 (by decide)
                        have h112 := h112.keep h80 eG139 (by decide)
                        have h114 := h114.keep h80 eG139 (by decide)
                        have h116 := h116.keep h80 eG139 (by decide)
                        have h118 := h118.keep h80 eG139 (by decide)
                        have h119 := h119.keep h80 eG139 (by decide)
                        have h120 := h120.keep h80 eG139 (by decide)
                        have h121 := h121.keep h80 eG139 (by decide)
                        have h122 := h122.keep h80 eG139 (by decide)
                        have h123 := h123.keep h80 eG139 (by decide)
                        have h124 := h124.keep h80 eG139 (by decide)
                        have h85 := h85.keep h80 eG139 (by decide)
                        have h117 := h117.keep h80 eG139 (by decide)
                        have h113 := h113.keep h80 eG139 (by decide)
                        have hlen := (z_len eG139).trans hlen
                        have hsl := (z_sl h80 eG139 rfl).trans hsl
                        have hfr := hfr.wr h80 eG139 (by decide)
                        have h80 := h80.kept eG139
                        change ab_W _ _ _ (List.set G136 80 (ab_ob 12 (mof 0 m_taped m_length m_out w2110 m_gathered m_sets m_ranges m_nodes m_at m_flags m_fault m_place m_numbered m_depth m_value m_isNot m_least0 m_most0 m_slot m_work m_got m_rowMany c2111 cw2112 t2113 0 (A_groupsOf s) m_allFrom m_allBefore m_founds m_pieces m_writtenMany m_templateWide m_tooMuch))) 199 [some (vR 80), some (vz s), none, none, none, none] [] _
                        rw [← eG139]
                        refine ab_aload_n d_MO_match_199 rfl ?_
                        refine ab_getf (fs := mof 0 m_taped m_length m_out w2110 m_gathered m_sets m_ranges m_nodes m_at m_flags m_fault m_place m_numbered m_depth m_value m_isNot m_least0 m_most0 m_slot m_work m_got m_rowMany c2111 cw2112 t2113 0 (A_groupsOf s) m_allFrom m_allBefore m_founds m_pieces m_writtenMany m_templateWide m_tooMuch) f_MO_563 d_MO_match_200 h80.2.2 rfl ?_
                        refine zz_if_eq (tgt := 215) d_MO_match_203 (by decide) (by decide) (fun c140 => ?_) (fun c140 => absurd c140 (by decide))
                        refine zz_iconst d_MO_match_215 ?_
                        refine zz_iret rfl d_MO_match_216 ?_
                        rw [hQ]; exact ⟨_, _, _, _, _, _, _, _, _, _, _, _, _, _, _, _, _, _, _, rfl, hfr, hlen, hsl, h80, h135, h136, h137, h144, h138, h142, h143, h140, h141, h134, h139, (by first | exact hq123 | exact rgs_w hq123 (by omega)), (by first | exact hq124 | exact rgs_w hq124 (by omega)), (by first | exact hq125 | exact rgs_w hq125 (by omega)), (by first | exact hq126 | exact rgs_w hq126 (by omega)), (by first | exact hq127 | exact rgs_w hq127 (by omega)), (by first | exact hq128 | exact rgs_w hq128 (by omega)), (by first | exact hq138 | exact rgs_w hq138 (by omega)), (by omega)⟩
                · refine ab_aload_n d_MO_match_63 rfl ?_
                  refine ab_aload_n d_MO_match_64 rfl ?_
                  refine ab_getf (fs := mof 0 m_taped m_length m_out m_wide m_gathered m_sets m_ranges m_nodes m_at m_flags m_fault m_place m_numbered m_depth m_value m_isNot m_least0 m_most0 m_slot m_work m_got m_rowMany m_charAt m_charWide m_trail m_isMatch m_matchGroups m_allFrom m_allBefore m_founds m_pieces m_writtenMany m_templateWide m_tooMuch) f_MO_181 d_MO_match_65 h80.2.2 rfl ?_
                  refine ab_iload_n d_MO_match_68 rfl ?_
                  refine ab_aload_n d_MO_match_69 rfl ?_
                  refine ab_getf (fs := mof 0 m_taped m_length m_out m_wide m_gathered m_sets m_ranges m_nodes m_at m_flags m_fault m_place m_numbered m_depth m_value m_isNot m_least0 m_most0 m_slot m_work m_got m_rowMany m_charAt m_charWide m_trail m_isMatch m_matchGroups m_allFrom m_allBefore m_founds m_pieces m_writtenMany m_templateWide m_tooMuch) f_MO_510 d_MO_match_70 h80.2.2 rfl ?_
                  refine ab_iload d_MO_match_73 rfl ?_
                  refine zz_iconst d_MO_match_75 ?_
                  refine ab_callV (d' := d - 1) (as := [vR 135, vz s, vz m_length, vz fm, vz 1]) (st := []) (r := _) (z_MO_note (o := o) (m_thrown := 0) (m_taped := m_taped) (m_length := m_length) (m_out := m_out) (m_wide := m_wide) (m_gathered := m_gathered) (m_sets := m_sets) (m_ranges := m_ranges) (m_nodes := m_nodes) (m_at := m_at) (m_flags := m_flags) (m_fault := m_fault) (m_place := m_place) (m_numbered := m_numbered) (m_depth := m_depth) (m_value := m_value) (m_isNot := m_isNot) (m_least0 := m_least0) (m_most0 := m_most0) (m_slot := m_slot) (m_work := m_work) (m_got := m_got) (m_rowMany := m_rowMany) (m_charAt := m_charAt) (m_charWide := m_charWide) (m_trail := m_trail) (m_isMatch := m_isMatch) (m_matchGroups := m_matchGroups) (m_allFrom := m_allFrom) (m_allBefore := m_allBefore) (m_founds := m_founds) (m_pieces := m_pieces) (m_writtenMany := m_writtenMany) (m_templateWide := m_templateWide) (m_tooMuch := m_tooMuch) (A_subject := A_subject) (A_stepMany := A_stepMany) (A_step := A_step) (A_next := A_next) (A_more := A_more) (A_classAt := A_classAt) (A_classMany := A_classMany) (A_classLow := A_classLow) (A_classHigh := A_classHigh) (no := 135) (lno := 335) (NO := JU) (Z := ZN) (s := s) (fr := m_length) (to := fm) (al := 1) h80 h135 h137 h118 h119 h120 h121 h122 h123 h124 h85 h117 (by omega) (by omega) (by omega) (by omega) hp5_ jst jcl jch jsb (by omega) jn (by omega)) (fun oc G2 h => by rcases h with ⟨_, _, _, _, _, h, _⟩ <;> exact ⟨_, h⟩) (by omega) m_MO_note ml_MO_559 im_MO_note se_MO_note c_MO h80.2.2 (Nat.le_of_ble_eq_true rfl) d_MO_match_76 rfl ?_
                  intro v G141 hq
                  rcases hq with ⟨NO2142, Z2143, w2144, c2145, cw2146, hv, hfk, hlk, hsk, hN80, hN135, hN137, hq147, hq148, hq149⟩
                  cases hv
                  have h139 := hfk.get h139 (by decide)
                  have h134 := hfk.get h134 (by decide)
                  have h136 := hfk.get h136 (by decide)
                  have h144 := hfk.get h144 (by decide)
                  have h138 := hfk.get h138 (by decide)
                  have h142 := hfk.get h142 (by decide)
                  have h143 := hfk.get h143 (by decide)
                  have h140 := hfk.get h140 (by decide)
                  have h141 := hfk.get h141 (by decide)
                  have h112 := hfk.get h112 (by decide)
                  have h114 := hfk.get h114 (by decide)
                  have h116 := hfk.get h116 (by decide)
                  have h118 := hfk.get h118 (by decide)
                  have h119 := hfk.get h119 (by decide)
                  have h120 := hfk.get h120 (by decide)
                  have h121 := hfk.get h121 (by decide)
                  have h122 := hfk.get h122 (by decide)
                  have h123 := hfk.get h123 (by decide)
                  have h124 := hfk.get h124 (by decide)
                  have h85 := hfk.get h85 (by decide)
                  have h117 := hfk.get h117 (by decide)
                  have h113 := hfk.get h113 (by decide)
                  have hfr := hfr.tr hfk (by decide)
                  have hlen := hlk.trans hlen
                  have hsl := hsk.trans hsl
                  have h80 := hN80
                  have h135 := hN135
                  have h137 := hN137
                  change ab_W _ _ _ G141 79 [some (vR 80), some (vz s), some (vz how), some (vz mc), some (vz fm), none] [] _
                  refine ab_aload_n d_MO_match_79 rfl ?_
                  refine ab_aload_n d_MO_match_80 rfl ?_
                  refine ab_getf (fs := mof 0 m_taped m_length m_out w2144 m_gathered m_sets m_ranges m_nodes m_at m_flags m_fault m_place m_numbered m_depth m_value m_isNot m_least0 m_most0 m_slot m_work m_got m_rowMany c2145 cw2146 m_trail m_isMatch m_matchGroups m_allFrom m_allBefore m_founds m_pieces m_writtenMany m_templateWide m_tooMuch) f_MO_181 d_MO_match_81 h80.2.2 rfl ?_
                  refine ab_iload d_MO_match_84 rfl ?_
                  refine ab_aload_n d_MO_match_86 rfl ?_
                  refine ab_getf (fs := mof 0 m_taped m_length m_out w2144 m_gathered m_sets m_ranges m_nodes m_at m_flags m_fault m_place m_numbered m_depth m_value m_isNot m_least0 m_most0 m_slot m_work m_got m_rowMany c2145 cw2146 m_trail m_isMatch m_matchGroups m_allFrom m_allBefore m_founds m_pieces m_writtenMany m_templateWide m_tooMuch) f_MO_112 d_MO_match_87 h80.2.2 rfl ?_
                  refine ab_iload_n d_MO_match_90 rfl ?_
                  refine zz_iald d_MO_match_91 h113 (by omega) ?_
                  refine ab_callS (d' := d - 1) (as := [vR 135, vz fm, vz (A_entry s)]) (st := [vR 80]) (z_MO_bit (o := o) (a := 135) (l := 335) (A := NO2142) (p := fm) (k := (A_entry s)) h135 (by omega)) (fun oc G2 h => by rcases h with ⟨h, _⟩ | ⟨h, _⟩ <;> exact ⟨_, h⟩) (by omega) m_MO_bit ml_MO_528 st_MO_bit (Nat.le_of_ble_eq_true rfl) d_MO_match_92 rfl ?_
                  intro v G150 hq
                  rcases hq with ⟨hv, hGe, hq151⟩ | ⟨hv, hGe, hq152⟩
                  · cases hv
                    rw [hGe]
                    change ab_W _ _ _ G141 95 [some (vR 80), some (vz s), some (vz how), some (vz mc), some (vz fm), none] [vz 1, vR 80] _
                    refine ab_putf (fs := mof 0 m_taped m_length m_out w2144 m_gathered m_sets m_ranges m_nodes m_at m_flags m_fault m_place m_numbered m_depth m_value m_isNot m_least0 m_most0 m_slot m_work m_got m_rowMany c2145 cw2146 m_trail m_isMatch m_matchGroups m_allFrom m_allBefore m_founds m_pieces m_writtenMany m_templateWide m_tooMuch) f_MO_563 (Or.inl rfl) d_MO_match_95 h80.2.2 (Nat.le_of_ble_eq_true rfl) (ab_fbz (by decide)) (h80.2.1 (by decide)) ?_
                    obtain ⟨G153, eG153⟩ : ∃ z : ab_G, z = List.set G141 80 (ab_ob 12 (mof 0 m_taped m_length m_out w2144 m_gathered m_sets m_ranges m_nodes m_at m_flags m_fault m_place m_numbered m_depth m_value m_isNot m_least0 m_most0 m_slot m_work m_got m_rowMany c2145 cw2146 m_trail 1 m_matchGroups m_allFrom m_allBefore m_founds m_pieces m_writtenMany m_templateWide m_tooMuch)) := ⟨_, rfl⟩
                    have h139 := h139.keep h80 eG153 (by decide)
                    have h134 := h134.keep h80 eG153 (by decide)
                    have h135 := h135.keep h80 eG153 (by decide)
                    have h136 := h136.keep h80 eG153 (by decide)
                    have h137 := h137.keep h80 eG153 (by decide)
                    have h144 := h144.keep h80 eG153 (by decide)
                    have h138 := h138.keep h80 eG153 (by decide)
                    have h142 := h142.keep h80 eG153 (by decide)
                    have h143 := h143.keep h80 eG153 (by decide)
                    have h140 := h140.keep h80 eG153 (by decide)
                    have h141 := h141.keep h80 eG153 (by decide)
                    have h112 := h112.keep h80 eG153 (by decide)
                    have h114 := h114.keep h80 eG153 (by decide)
                    have h116 := h116.keep h80 eG153 (by decide)
                    have h118 := h118.keep h80 eG153 (by decide)
                    have h119 := h119.keep h80 eG153 (by decide)
                    have h120 := h120.keep h80 eG153 (by decide)
                    have h121 := h121.keep h80 eG153 (by decide)
                    have h122 := h122.keep h80 eG153 (by decide)
                    have h123 := h123.keep h80 eG153 (by decide)
                    have h124 := h124.keep h80 eG153 (by decide)
                    have h85 := h85.keep h80 eG153 (by decide)
                    have h117 := h117.keep h80 eG153 (by decide)
                    have h113 := h113.keep h80 eG153 (by decide)
                    have hlen := (z_len eG153).trans hlen
                    have hsl := (z_sl h80 eG153 rfl).trans hsl
                    have hfr := hfr.wr h80 eG153 (by decide)
                    have h80 := h80.kept eG153
                    change ab_W _ _ _ (List.set G141 80 (ab_ob 12 (mof 0 m_taped m_length m_out w2144 m_gathered m_sets m_ranges m_nodes m_at m_flags m_fault m_place m_numbered m_depth m_value m_isNot m_least0 m_most0 m_slot m_work m_got m_rowMany c2145 cw2146 m_trail 1 m_matchGroups m_allFrom m_allBefore m_founds m_pieces m_writtenMany m_templateWide m_tooMuch))) 98 [some (vR 80), some (vz s), some (vz how), some (vz mc), some (vz fm), none] [] _
                    rw [← eG153]
                    refine ab_aload_n d_MO_match_98 rfl ?_
                    refine ab_getf (fs := mof 0 m_taped m_length m_out w2144 m_gathered m_sets m_ranges m_nodes m_at m_flags m_fault m_place m_numbered m_depth m_value m_isNot m_least0 m_most0 m_slot m_work m_got m_rowMany c2145 cw2146 m_trail 1 m_matchGroups m_allFrom m_allBefore m_founds m_pieces m_writtenMany m_templateWide m_tooMuch) f_MO_563 d_MO_match_99 h80.2.2 rfl ?_
                    refine zz_if_eq (tgt := 159) d_MO_match_102 (by decide) (by decide) (fun c154 => absurd c154 (by decide)) (fun c154 => ?_)
                    refine ab_aload_n d_MO_match_105 rfl ?_
                    refine ab_aload_n d_MO_match_106 rfl ?_
                    refine ab_getf (fs := mof 0 m_taped m_length m_out w2144 m_gathered m_sets m_ranges m_nodes m_at m_flags m_fault m_place m_numbered m_depth m_value m_isNot m_least0 m_most0 m_slot m_work m_got m_rowMany c2145 cw2146 m_trail 1 m_matchGroups m_allFrom m_allBefore m_founds m_pieces m_writtenMany m_templateWide m_tooMuch) f_MO_181 d_MO_match_107 h80.2.2 rfl ?_
                    refine ab_iload_n d_MO_match_110 rfl ?_
                    refine ab_iload d_MO_match_111 rfl ?_
                    refine ab_aload_n d_MO_match_113 rfl ?_
                    refine ab_getf (fs := mof 0 m_taped m_length m_out w2144 m_gathered m_sets m_ranges m_nodes m_at m_flags m_fault m_place m_numbered m_depth m_value m_isNot m_least0 m_most0 m_slot m_work m_got m_rowMany c2145 cw2146 m_trail 1 m_matchGroups m_allFrom m_allBefore m_founds m_pieces m_writtenMany m_templateWide m_tooMuch) f_MO_510 d_MO_match_114 h80.2.2 rfl ?_
                    refine ab_callV (d' := d - 1) (as := [vR 135, vz s, vz fm, vz m_length]) (st := []) (r := _) (z_MO_walk (o := o) (m_thrown := 0) (m_taped := m_taped) (m_length := m_length) (m_out := m_out) (m_wide := w2144) (m_gathered := m_gathered) (m_sets := m_sets) (m_ranges := m_ranges) (m_nodes := m_nodes) (m_at := m_at) (m_flags := m_flags) (m_fault := m_fault) (m_place := m_place) (m_numbered := m_numbered) (m_depth := m_depth) (m_value := m_value) (m_isNot := m_isNot) (m_least0 := m_least0) (m_most0 := m_most0) (m_slot := m_slot) (m_work := m_work) (m_got := m_got) (m_rowMany := m_rowMany) (m_charAt := c2145) (m_charWide := cw2146) (m_trail := m_trail) (m_isMatch := 1) (m_matchGroups := m_matchGroups) (m_allFrom := m_allFrom) (m_allBefore := m_allBefore) (m_founds := m_founds) (m_pieces := m_pieces) (m_writtenMany := m_writtenMany) (m_templateWide := m_templateWide) (m_tooMuch := m_tooMuch) (A_subject := A_subject) (A_stepMany := A_stepMany) (A_step := A_step) (A_next := A_next) (A_more := A_more) (A_classAt := A_classAt) (A_classMany := A_classMany) (A_classLow := A_classLow) (A_classHigh := A_classHigh) (no := 135) (lno := 335) (NO := NO2142) (Z := ZS) (s := s) (fr := m_length) (to := fm) (al := 1) (SP := SP) (PL := PL) (PT := PT) (TS := TS) (TO := TO) (ls := m_length) (fm := fm) (A_entry := A_entry) h80 h138 h142 h143 h140 h141 h144 h135 h118 h119 h120 h121 h122 h123 h124 h85 h117 h113 (by omega) (by omega) (by omega) (by omega) hp5_ jst jcl jch jsb (fun h => by omega) (fun _ => ⟨rfl, rfl⟩) (by omega) hq148 (by omega) hq151 jse jsp jpt jts jto (by omega)) (fun oc G2 h => by rcases h with ⟨_, _, _, _, _, _, _, _, _, _, _, h, _⟩ <;> exact ⟨_, h⟩) (by omega) m_MO_walk ml_MO_552 im_MO_walk se_MO_walk c_MO h80.2.2 (Nat.le_of_ble_eq_true rfl) d_MO_match_117 rfl ?_
                    intro v G155 hq
                    rcases hq with ⟨p2156, w2157, c2158, cw2159, t2160, Z2161, SP2162, PL2163, PT2164, TS2165, TO2166, hv, hfk, hlk, hsk, hN80, hN138, hN142, hN143, hN140, hN141, hN144, hq167, hq168, hq169, hq170, hq171, hq172, hq173, hq174⟩
                    cases hv
                    have h139 := hfk.get h139 (by decide)
                    have h134 := hfk.get h134 (by decide)
                    have h135 := hfk.get h135 (by decide)
                    have h136 := hfk.get h136 (by decide)
                    have h137 := hfk.get h137 (by decide)
                    have h112 := hfk.get h112 (by decide)
                    have h114 := hfk.get h114 (by decide)
                    have h116 := hfk.get h116 (by decide)
                    have h118 := hfk.get h118 (by decide)
                    have h119 := hfk.get h119 (by decide)
                    have h120 := hfk.get h120 (by decide)
                    have h121 := hfk.get h121 (by decide)
                    have h122 := hfk.get h122 (by decide)
                    have h123 := hfk.get h123 (by decide)
                    have h124 := hfk.get h124 (by decide)
                    have h85 := hfk.get h85 (by decide)
                    have h117 := hfk.get h117 (by decide)
                    have h113 := hfk.get h113 (by decide)
                    have hfr := hfr.tr hfk (by decide)
                    have hlen := hlk.trans hlen
                    have hsl := hsk.trans hsl
                    have h80 := hN80
                    have h138 := hN138
                    have h142 := hN142
                    have h143 := hN143
                    have h140 := hN140
                    have h141 := hN141
                    have h144 := hN144
                    change ab_W _ _ _ G155 120 [some (vR 80), some (vz s), some (vz how), some (vz mc), some (vz fm), none] [] _
                    refine ab_goto (tgt := 159) d_MO_match_120 (by decide) ?_
                    refine zz_iconst d_MO_match_159 ?_
                    refine ab_istore d_MO_match_160 (Nat.le_of_ble_eq_true rfl) (Nat.le_of_ble_eq_true rfl) rfl ?_
                    change ab_W _ _ _ G155 162 [some (vR 80), some (vz s), some (vz how), some (vz mc), some (vz fm), some (vz 0)] [] _
                    refine ab_less (L' := [some (vR 80), some (vz s), none, none, none, some (vz 0)]) (fun i v h => by rcases i with _ | _ | _ | _ | _ | _ | i <;> first | exact h | (simp at h)) ?_
                    refine y_MO_match_162 (m_thrown := 0) (m_taped := m_taped) (m_length := m_length) (m_out := m_out) (m_wide := w2157) (m_gathered := m_gathered) (m_sets := m_sets) (m_ranges := m_ranges) (m_nodes := m_nodes) (m_at := m_at) (m_flags := m_flags) (m_fault := m_fault) (m_place := m_place) (m_numbered := m_numbered) (m_depth := m_depth) (m_value := m_value) (m_isNot := m_isNot) (m_least0 := m_least0) (m_most0 := m_most0) (m_slot := m_slot) (m_work := m_work) (m_got := m_got) (m_rowMany := m_rowMany) (m_charAt := c2158) (m_charWide := cw2159) (m_trail := t2160) (m_isMatch := 1) (m_matchGroups := m_matchGroups) (m_allFrom := m_allFrom) (m_allBefore := m_allBefore) (m_founds := m_founds) (m_pieces := m_pieces) (m_writtenMany := m_writtenMany) (m_templateWide := m_templateWide) (m_tooMuch := m_tooMuch) (SP := SP2162) (s := s) (G0 := G155) (i_ := 0) (KE := KE) (by omega) hq167 (by omega) (Int.toNat (20 - 0) + 1) h80 h138 h139 (by omega) jke fx.rf rfl rfl (by omega) (fun G175 KE2176 hN139 hq177 hfk hlk hsk => ?_)
                    · have h80 := hfk.get h80 (by decide)
                      have h134 := hfk.get h134 (by decide)
                      have h135 := hfk.get h135 (by decide)
                      have h136 := hfk.get h136 (by decide)
                      have h137 := hfk.get h137 (by decide)
                      have h144 := hfk.get h144 (by decide)
                      have h138 := hfk.get h138 (by decide)
                      have h142 := hfk.get h142 (by decide)
                      have h143 := hfk.get h143 (by decide)
                      have h140 := hfk.get h140 (by decide)
                      have h141 := hfk.get h141 (by decide)
                      have h112 := hfk.get h112 (by decide)
                      have h114 := hfk.get h114 (by decide)
                      have h116 := hfk.get h116 (by decide)
                      have h118 := hfk.get h118 (by decide)
                      have h119 := hfk.get h119 (by decide)
                      have h120 := hfk.get h120 (by decide)
                      have h121 := hfk.get h121 (by decide)
                      have h122 := hfk.get h122 (by decide)
                      have h123 := hfk.get h123 (by decide)
                      have h124 := hfk.get h124 (by decide)
                      have h85 := hfk.get h85 (by decide)
                      have h117 := hfk.get h117 (by decide)
                      have h113 := hfk.get h113 (by decide)
                      have hfr := hfr.tr hfk (by decide)
                      have hlen := hlk.trans hlen
                      have hsl := hsk.trans hsl
                      have h139 := hN139
                      change ab_W _ _ _ G175 189 [some (vR 80), some (vz s), none, none, none, none] [] _
                      refine ab_aload_n d_MO_match_189 rfl ?_
                      refine ab_aload_n d_MO_match_190 rfl ?_
                      refine ab_getf (fs := mof 0 m_taped m_length m_out w2157 m_gathered m_sets m_ranges m_nodes m_at m_flags m_fault m_place m_numbered m_depth m_value m_isNot m_least0 m_most0 m_slot m_work m_got m_rowMany c2158 cw2159 t2160 1 m_matchGroups m_allFrom m_allBefore m_founds m_pieces m_writtenMany m_templateWide m_tooMuch) f_MO_115 d_MO_match_191 h80.2.2 rfl ?_
                      refine ab_iload_n d_MO_match_194 rfl ?_
                      refine zz_iald d_MO_match_195 h114 (by omega) ?_
                      refine ab_putf (fs := mof 0 m_taped m_length m_out w2157 m_gathered m_sets m_ranges m_nodes m_at m_flags m_fault m_place m_numbered m_depth m_value m_isNot m_least0 m_most0 m_slot m_work m_got m_rowMany c2158 cw2159 t2160 1 m_matchGroups m_allFrom m_allBefore m_founds m_pieces m_writtenMany m_templateWide m_tooMuch) f_MO_570 (Or.inl rfl) d_MO_match_196 h80.2.2 (Nat.le_of_ble_eq_true rfl) (fun _ => ⟨rfl, rfl⟩) (h80.2.1 (by decide)) ?_
                      obtain ⟨G178, eG178⟩ : ∃ z : ab_G, z = List.set G175 80 (ab_ob 12 (mof 0 m_taped m_length m_out w2157 m_gathered m_sets m_ranges m_nodes m_at m_flags m_fault m_place m_numbered m_depth m_value m_isNot m_least0 m_most0 m_slot m_work m_got m_rowMany c2158 cw2159 t2160 1 (A_groupsOf s) m_allFrom m_allBefore m_founds m_pieces m_writtenMany m_templateWide m_tooMuch)) := ⟨_, rfl⟩
                      have h139 := h139.keep h80 eG178 (by decide)
                      have h134 := h134.keep h80 eG178 (by decide)
                      have h135 := h135.keep h80 eG178 (by decide)
                      have h136 := h136.keep h80 eG178 (by decide)
                      have h137 := h137.keep h80 eG178 (by decide)
                      have h144 := h144.keep h80 eG178 (by decide)
                      have h138 := h138.keep h80 eG178 (by decide)
                      have h142 := h142.keep h80 eG178 (by decide)
                      have h143 := h143.keep h80 eG178 (by decide)
                      have h140 := h140.keep h80 eG178 (by decide)
                      have h141 := h141.keep h80 eG178 (by decide)
                      have h112 := h112.keep h80 eG178 (by decide)
                      have h114 := h114.keep h80 eG178 (by decide)
                      have h116 := h116.keep h80 eG178 (by decide)
                      have h118 := h118.keep h80 eG178 (by decide)
                      have h119 := h119.keep h80 eG178 (by decide)
                      have h120 := h120.keep h80 eG178 (by decide)
                      have h121 := h121.keep h80 eG178 (by decide)
                      have h122 := h122.keep h80 eG178 (by decide)
                      have h123 := h123.keep h80 eG178 (by decide)
                      have h124 := h124.keep h80 eG178 (by decide)
                      have h85 := h85.keep h80 eG178 (by decide)
                      have h117 := h117.keep h80 eG178 (by decide)
                      have h113 := h113.keep h80 eG178 (by decide)
                      have hlen := (z_len eG178).trans hlen
                      have hsl := (z_sl h80 eG178 rfl).trans hsl
                      have hfr := hfr.wr h80 eG178 (by decide)
                      have h80 := h80.kept eG178
                      change ab_W _ _ _ (List.set G175 80 (ab_ob 12 (mof 0 m_taped m_length m_out w2157 m_gathered m_sets m_ranges m_nodes m_at m_flags m_fault m_place m_numbered m_depth m_value m_isNot m_least0 m_most0 m_slot m_work m_got m_rowMany c2158 cw2159 t2160 1 (A_groupsOf s) m_allFrom m_allBefore m_founds m_pieces m_writtenMany m_templateWide m_tooMuch))) 199 [some (vR 80), some (vz s), none, none, none, none] [] _
                      rw [← eG178]
                      refine ab_aload_n d_MO_match_199 rfl ?_
                      refine ab_getf (fs := mof 0 m_taped m_length m_out w2157 m_gathered m_sets m_ranges m_nodes m_at m_flags m_fault m_place m_numbered m_depth m_value m_isNot m_least0 m_most0 m_slot m_work m_got m_rowMany c2158 cw2159 t2160 1 (A_groupsOf s) m_allFrom m_allBefore m_founds m_pieces m_writtenMany m_templateWide m_tooMuch) f_MO_563 d_MO_match_200 h80.2.2 rfl ?_
                      refine zz_if_eq (tgt := 215) d_MO_match_203 (by decide) (by decide) (fun c179 => absurd c179 (by decide)) (fun c179 => ?_)
                      refine ab_aload_n d_MO_match_206 rfl ?_
                      refine ab_getf (fs := mof 0 m_taped m_length m_out w2157 m_gathered m_sets m_ranges m_nodes m_at m_flags m_fault m_place m_numbered m_depth m_value m_isNot m_least0 m_most0 m_slot m_work m_got m_rowMany c2158 cw2159 t2160 1 (A_groupsOf s) m_allFrom m_allBefore m_founds m_pieces m_writtenMany m_templateWide m_tooMuch) f_MO_193 d_MO_match_207 h80.2.2 rfl ?_
                      refine zz_iconst d_MO_match_210 ?_
                      refine zz_iald d_MO_match_211 h139 (by omega) ?_
                      refine ab_goto (tgt := 216) d_MO_match_212 (by decide) ?_
                      refine zz_iret rfl d_MO_match_216 ?_
                      rw [hQ]; exact ⟨_, _, _, _, _, _, _, _, _, _, _, _, _, _, _, _, _, _, _, rfl, hfr, hlen, hsl, h80, h135, h136, h137, h144, h138, h142, h143, h140, h141, h134, h139, (by first | exact hq147 | exact rgs_w hq147 (by omega)), (by first | exact hq171 | exact rgs_w hq171 (by omega)), (by first | exact hq167 | exact rgs_w hq167 (by omega)), (by first | exact hq168 | exact rgs_w hq168 (by omega)), (by first | exact hq169 | exact rgs_w hq169 (by omega)), (by first | exact hq170 | exact rgs_w hq170 (by omega)), (by first | exact hq177 | exact rgs_w hq177 (by omega)), (by omega)⟩
                  · cases hv
                    rw [hGe]
                    change ab_W _ _ _ G141 95 [some (vR 80), some (vz s), some (vz how), some (vz mc), some (vz fm), none] [vz 0, vR 80] _
                    refine ab_putf (fs := mof 0 m_taped m_length m_out w2144 m_gathered m_sets m_ranges m_nodes m_at m_flags m_fault m_place m_numbered m_depth m_value m_isNot m_least0 m_most0 m_slot m_work m_got m_rowMany c2145 cw2146 m_trail m_isMatch m_matchGroups m_allFrom m_allBefore m_founds m_pieces m_writtenMany m_templateWide m_tooMuch) f_MO_563 (Or.inl rfl) d_MO_match_95 h80.2.2 (Nat.le_of_ble_eq_true rfl) (ab_fbz (by decide)) (h80.2.1 (by decide)) ?_
                    obtain ⟨G180, eG180⟩ : ∃ z : ab_G, z = List.set G141 80 (ab_ob 12 (mof 0 m_taped m_length m_out w2144 m_gathered m_sets m_ranges m_nodes m_at m_flags m_fault m_place m_numbered m_depth m_value m_isNot m_least0 m_most0 m_slot m_work m_got m_rowMany c2145 cw2146 m_trail 0 m_matchGroups m_allFrom m_allBefore m_founds m_pieces m_writtenMany m_templateWide m_tooMuch)) := ⟨_, rfl⟩
                    have h139 := h139.keep h80 eG180 (by decide)
                    have h134 := h134.keep h80 eG180 (by decide)
                    have h135 := h135.keep h80 eG180 (by decide)
                    have h136 := h136.keep h80 eG180 (by decide)
                    have h137 := h137.keep h80 eG180 (by decide)
                    have h144 := h144.keep h80 eG180 (by decide)
                    have h138 := h138.keep h80 eG180 (by decide)
                    have h142 := h142.keep h80 eG180 (by decide)
                    have h143 := h143.keep h80 eG180 (by decide)
                    have h140 := h140.keep h80 eG180 (by decide)
                    have h141 := h141.keep h80 eG180 (by decide)
                    have h112 := h112.keep h80 eG180 (by decide)
                    have h114 := h114.keep h80 eG180 (by decide)
                    have h116 := h116.keep h80 eG180 (by decide)
                    have h118 := h118.keep h80 eG180 (by decide)
                    have h119 := h119.keep h80 eG180 (by decide)
                    have h120 := h120.keep h80 eG180 (by decide)
                    have h121 := h121.keep h80 eG180 (by decide)
                    have h122 := h122.keep h80 eG180 (by decide)
                    have h123 := h123.keep h80 eG180 (by decide)
                    have h124 := h124.keep h80 eG180 (by decide)
                    have h85 := h85.keep h80 eG180 (by decide)
                    have h117 := h117.keep h80 eG180 (by decide)
                    have h113 := h113.keep h80 eG180 (by decide)
                    have hlen := (z_len eG180).trans hlen
                    have hsl := (z_sl h80 eG180 rfl).trans hsl
                    have hfr := hfr.wr h80 eG180 (by decide)
                    have h80 := h80.kept eG180
                    change ab_W _ _ _ (List.set G141 80 (ab_ob 12 (mof 0 m_taped m_length m_out w2144 m_gathered m_sets m_ranges m_nodes m_at m_flags m_fault m_place m_numbered m_depth m_value m_isNot m_least0 m_most0 m_slot m_work m_got m_rowMany c2145 cw2146 m_trail 0 m_matchGroups m_allFrom m_allBefore m_founds m_pieces m_writtenMany m_templateWide m_tooMuch))) 98 [some (vR 80), some (vz s), some (vz how), some (vz mc), some (vz fm), none] [] _
                    rw [← eG180]
                    refine ab_aload_n d_MO_match_98 rfl ?_
                    refine ab_getf (fs := mof 0 m_taped m_length m_out w2144 m_gathered m_sets m_ranges m_nodes m_at m_flags m_fault m_place m_numbered m_depth m_value m_isNot m_least0 m_most0 m_slot m_work m_got m_rowMany c2145 cw2146 m_trail 0 m_matchGroups m_allFrom m_allBefore m_founds m_pieces m_writtenMany m_templateWide m_tooMuch) f_MO_563 d_MO_match_99 h80.2.2 rfl ?_
                    refine zz_if_eq (tgt := 159) d_MO_match_102 (by decide) (by decide) (fun c181 => ?_) (fun c181 => absurd c181 (by decide))
                    refine zz_iconst d_MO_match_159 ?_
                    refine ab_istore d_MO_match_160 (Nat.le_of_ble_eq_true rfl) (Nat.le_of_ble_eq_true rfl) rfl ?_
                    change ab_W _ _ _ G180 162 [some (vR 80), some (vz s), some (vz how), some (vz mc), some (vz fm), some (vz 0)] [] _
                    refine ab_less (L' := [some (vR 80), some (vz s), none, none, none, some (vz 0)]) (fun i v h => by rcases i with _ | _ | _ | _ | _ | _ | i <;> first | exact h | (simp at h)) ?_
                    refine y_MO_match_162 (m_thrown := 0) (m_taped := m_taped) (m_length := m_length) (m_out := m_out) (m_wide := w2144) (m_gathered := m_gathered) (m_sets := m_sets) (m_ranges := m_ranges) (m_nodes := m_nodes) (m_at := m_at) (m_flags := m_flags) (m_fault := m_fault) (m_place := m_place) (m_numbered := m_numbered) (m_depth := m_depth) (m_value := m_value) (m_isNot := m_isNot) (m_least0 := m_least0) (m_most0 := m_most0) (m_slot := m_slot) (m_work := m_work) (m_got := m_got) (m_rowMany := m_rowMany) (m_charAt := c2145) (m_charWide := cw2146) (m_trail := m_trail) (m_isMatch := 0) (m_matchGroups := m_matchGroups) (m_allFrom := m_allFrom) (m_allBefore := m_allBefore) (m_founds := m_founds) (m_pieces := m_pieces) (m_writtenMany := m_writtenMany) (m_templateWide := m_templateWide) (m_tooMuch := m_tooMuch) (SP := SP) (s := s) (G0 := G180) (i_ := 0) (KE := KE) (by omega) jsp (by omega) (Int.toNat (20 - 0) + 1) h80 h138 h139 (by omega) jke fx.rf rfl rfl (by omega) (fun G182 KE2183 hN139 hq184 hfk hlk hsk => ?_)
                    · have h80 := hfk.get h80 (by decide)
                      have h134 := hfk.get h134 (by decide)
                      have h135 := hfk.get h135 (by decide)
                      have h136 := hfk.get h136 (by decide)
                      have h137 := hfk.get h137 (by decide)
                      have h144 := hfk.get h144 (by decide)
                      have h138 := hfk.get h138 (by decide)
                      have h142 := hfk.get h142 (by decide)
                      have h143 := hfk.get h143 (by decide)
                      have h140 := hfk.get h140 (by decide)
                      have h141 := hfk.get h141 (by decide)
                      have h112 := hfk.get h112 (by decide)
                      have h114 := hfk.get h114 (by decide)
                      have h116 := hfk.get h116 (by decide)
                      have h118 := hfk.get h118 (by decide)
                      have h119 := hfk.get h119 (by decide)
                      have h120 := hfk.get h120 (by decide)
                      have h121 := hfk.get h121 (by decide)
                      have h122 := hfk.get h122 (by decide)
                      have h123 := hfk.get h123 (by decide)
                      have h124 := hfk.get h124 (by decide)
                      have h85 := hfk.get h85 (by decide)
                      have h117 := hfk.get h117 (by decide)
                      have h113 := hfk.get h113 (by decide)
                      have hfr := hfr.tr hfk (by decide)
                      have hlen := hlk.trans hlen
                      have hsl := hsk.trans hsl
                      have h139 := hN139
                      change ab_W _ _ _ G182 189 [some (vR 80), some (vz s), none, none, none, none] [] _
                      refine ab_aload_n d_MO_match_189 rfl ?_
                      refine ab_aload_n d_MO_match_190 rfl ?_
                      refine ab_getf (fs := mof 0 m_taped m_length m_out w2144 m_gathered m_sets m_ranges m_nodes m_at m_flags m_fault m_place m_numbered m_depth m_value m_isNot m_least0 m_most0 m_slot m_work m_got m_rowMany c2145 cw2146 m_trail 0 m_matchGroups m_allFrom m_allBefore m_founds m_pieces m_writtenMany m_templateWide m_tooMuch) f_MO_115 d_MO_match_191 h80.2.2 rfl ?_
                      refine ab_iload_n d_MO_match_194 rfl ?_
                      refine zz_iald d_MO_match_195 h114 (by omega) ?_
                      refine ab_putf (fs := mof 0 m_taped m_length m_out w2144 m_gathered m_sets m_ranges m_nodes m_at m_flags m_fault m_place m_numbered m_depth m_value m_isNot m_least0 m_most0 m_slot m_work m_got m_rowMany c2145 cw2146 m_trail 0 m_matchGroups m_allFrom m_allBefore m_founds m_pieces m_writtenMany m_templateWide m_tooMuch) f_MO_570 (Or.inl rfl) d_MO_match_196 h80.2.2 (Nat.le_of_ble_eq_true rfl) (fun _ => ⟨rfl, rfl⟩) (h80.2.1 (by decide)) ?_
                      obtain ⟨G185, eG185⟩ : ∃ z : ab_G, z = List.set G182 80 (ab_ob 12 (mof 0 m_taped m_length m_out w2144 m_gathered m_sets m_ranges m_nodes m_at m_flags m_fault m_place m_numbered m_depth m_value m_isNot m_least0 m_most0 m_slot m_work m_got m_rowMany c2145 cw2146 m_trail 0 (A_groupsOf s) m_allFrom m_allBefore m_founds m_pieces m_writtenMany m_templateWide m_tooMuch)) := ⟨_, rfl⟩
                      have h139 := h139.keep h80 eG185 (by decide)
                      have h134 := h134.keep h80 eG185 (by decide)
                      have h135 := h135.keep h80 eG185 (by decide)
                      have h136 := h136.keep h80 eG185 (by decide)
                      have h137 := h137.keep h80 eG185 (by decide)
                      have h144 := h144.keep h80 eG185 (by decide)
                      have h138 := h138.keep h80 eG185 (by decide)
                      have h142 := h142.keep h80 eG185 (by decide)
                      have h143 := h143.keep h80 eG185 (by decide)
                      have h140 := h140.keep h80 eG185 (by decide)
                      have h141 := h141.keep h80 eG185 (by decide)
                      have h112 := h112.keep h80 eG185 (by decide)
                      have h114 := h114.keep h80 eG185 (by decide)
                      have h116 := h116.keep h80 eG185 (by decide)
                      have h118 := h118.keep h80 eG185 (by decide)
                      have h119 := h119.keep h80 eG185 (by decide)
                      have h120 := h120.keep h80 eG185 (by decide)
                      have h121 := h121.keep h80 eG185 (by decide)
                      have h122 := h122.keep h80 eG185 (by decide)
                      have h123 := h123.keep h80 eG185 (by decide)
                      have h124 := h124.keep h80 eG185 (by decide)
                      have h85 := h85.keep h80 eG185 (by decide)
                      have h117 := h117.keep h80 eG185 (by decide)
                      have h113 := h113.keep h80 eG185 (by decide)
                      have hlen := (z_len eG185).trans hlen
                      have hsl := (z_sl h80 eG185 rfl).trans hsl
                      have hfr := hfr.wr h80 eG185 (by decide)
                      have h80 := h80.kept eG185
                      change ab_W _ _ _ (List.set G182 80 (ab_ob 12 (mof 0 m_taped m_length m_out w2144 m_gathered m_sets m_ranges m_nodes m_at m_flags m_fault m_place m_numbered m_depth m_value m_isNot m_least0 m_most0 m_slot m_work m_got m_rowMany c2145 cw2146 m_trail 0 (A_groupsOf s) m_allFrom m_allBefore m_founds m_pieces m_writtenMany m_templateWide m_tooMuch))) 199 [some (vR 80), some (vz s), none, none, none, none] [] _
                      rw [← eG185]
                      refine ab_aload_n d_MO_match_199 rfl ?_
                      refine ab_getf (fs := mof 0 m_taped m_length m_out w2144 m_gathered m_sets m_ranges m_nodes m_at m_flags m_fault m_place m_numbered m_depth m_value m_isNot m_least0 m_most0 m_slot m_work m_got m_rowMany c2145 cw2146 m_trail 0 (A_groupsOf s) m_allFrom m_allBefore m_founds m_pieces m_writtenMany m_templateWide m_tooMuch) f_MO_563 d_MO_match_200 h80.2.2 rfl ?_
                      refine zz_if_eq (tgt := 215) d_MO_match_203 (by decide) (by decide) (fun c186 => ?_) (fun c186 => absurd c186 (by decide))
                      refine zz_iconst d_MO_match_215 ?_
                      refine zz_iret rfl d_MO_match_216 ?_
                      rw [hQ]; exact ⟨_, _, _, _, _, _, _, _, _, _, _, _, _, _, _, _, _, _, _, rfl, hfr, hlen, hsl, h80, h135, h136, h137, h144, h138, h142, h143, h140, h141, h134, h139, (by first | exact hq147 | exact rgs_w hq147 (by omega)), (by first | exact jse | exact rgs_w jse (by omega)), (by first | exact jsp | exact rgs_w jsp (by omega)), (by first | exact jpt | exact rgs_w jpt (by omega)), (by first | exact jts | exact rgs_w jts (by omega)), (by first | exact jto | exact rgs_w jto (by omega)), (by first | exact hq184 | exact rgs_w hq184 (by omega)), (by omega)⟩
              · refine zz_iconst d_MO_match_41 ?_
                refine ab_goto (tgt := 46) d_MO_match_42 (by decide) ?_
                refine ab_putf (fs := mof m_thrown m_taped m_length m_out m_wide m_gathered m_sets m_ranges m_nodes m_at m_flags m_fault m_place m_numbered m_depth m_value m_isNot m_least0 m_most0 m_slot m_work m_got m_rowMany m_charAt m_charWide m_trail m_isMatch m_matchGroups m_allFrom m_allBefore m_founds m_pieces m_writtenMany m_templateWide m_tooMuch) f_MO_220 (Or.inl rfl) d_MO_match_46 h80.2.2 (Nat.le_of_ble_eq_true rfl) (fun _ => ⟨rfl, rfl⟩) (h80.2.1 (by decide)) ?_
                obtain ⟨G187, eG187⟩ : ∃ z : ab_G, z = List.set G 80 (ab_ob 12 (mof 1 m_taped m_length m_out m_wide m_gathered m_sets m_ranges m_nodes m_at m_flags m_fault m_place m_numbered m_depth m_value m_isNot m_least0 m_most0 m_slot m_work m_got m_rowMany m_charAt m_charWide m_trail m_isMatch m_matchGroups m_allFrom m_allBefore m_founds m_pieces m_writtenMany m_templateWide m_tooMuch)) := ⟨_, rfl⟩
                have h139 := h139.keep h80 eG187 (by decide)
                have h134 := h134.keep h80 eG187 (by decide)
                have h135 := h135.keep h80 eG187 (by decide)
                have h136 := h136.keep h80 eG187 (by decide)
                have h137 := h137.keep h80 eG187 (by decide)
                have h144 := h144.keep h80 eG187 (by decide)
                have h138 := h138.keep h80 eG187 (by decide)
                have h142 := h142.keep h80 eG187 (by decide)
                have h143 := h143.keep h80 eG187 (by decide)
                have h140 := h140.keep h80 eG187 (by decide)
                have h141 := h141.keep h80 eG187 (by decide)
                have h112 := h112.keep h80 eG187 (by decide)
                have h114 := h114.keep h80 eG187 (by decide)
                have h116 := h116.keep h80 eG187 (by decide)
                have h118 := h118.keep h80 eG187 (by decide)
                have h119 := h119.keep h80 eG187 (by decide)
                have h120 := h120.keep h80 eG187 (by decide)
                have h121 := h121.keep h80 eG187 (by decide)
                have h122 := h122.keep h80 eG187 (by decide)
                have h123 := h123.keep h80 eG187 (by decide)
                have h124 := h124.keep h80 eG187 (by decide)
                have h85 := h85.keep h80 eG187 (by decide)
                have h117 := h117.keep h80 eG187 (by decide)
                have h113 := h113.keep h80 eG187 (by decide)
                have hlen := (z_len eG187).trans hlen
                have hsl := (z_sl h80 eG187 rfl).trans hsl
                have hfr := hfr.wr h80 eG187 (by decide)
                have h80 := h80.kept eG187
                change ab_W _ _ _ (List.set G 80 (ab_ob 12 (mof 1 m_taped m_length m_out m_wide m_gathered m_sets m_ranges m_nodes m_at m_flags m_fault m_place m_numbered m_depth m_value m_isNot m_least0 m_most0 m_slot m_work m_got m_rowMany m_charAt m_charWide m_trail m_isMatch m_matchGroups m_allFrom m_allBefore m_founds m_pieces m_writtenMany m_templateWide m_tooMuch))) 49 [some (vR 80), some (vz s), some (vz how), some (vz mc), some (vz fm), none] [] _
                rw [← eG187]
                refine ab_aload_n d_MO_match_49 rfl ?_
                refine ab_getf (fs := mof 1 m_taped m_length m_out m_wide m_gathered m_sets m_ranges m_nodes m_at m_flags m_fault m_place m_numbered m_depth m_value m_isNot m_least0 m_most0 m_slot m_work m_got m_rowMany m_charAt m_charWide m_trail m_isMatch m_matchGroups m_allFrom m_allBefore m_founds m_pieces m_writtenMany m_templateWide m_tooMuch) f_MO_220 d_MO_match_50 h80.2.2 rfl ?_
                refine zz_if_le (tgt := 58) d_MO_match_53 (by decide) (by decide) (fun c188 => absurd c188 (by decide)) (fun c188 => ?_)
                refine zz_iconst d_MO_match_56 ?_
                refine zz_iret rfl d_MO_match_57 ?_
                rw [hQ]; exact ⟨_, _, _, _, _, _, _, _, _, _, _, _, _, _, _, _, _, _, _, rfl, hfr, hlen, hsl, h80, h135, h136, h137, h144, h138, h142, h143, h140, h141, h134, h139, (by first | exact jn | exact rgs_w jn (by omega)), (by first | exact jse | exact rgs_w jse (by omega)), (by first | exact jsp | exact rgs_w jsp (by omega)), (by first | exact jpt | exact rgs_w jpt (by omega)), (by first | exact jts | exact rgs_w jts (by omega)), (by first | exact jto | exact rgs_w jto (by omega)), (by first | exact jke | exact rgs_w jke (by omega)), (by omega)⟩
set_option maxRecDepth 100000 in
set_option maxHeartbeats 4000000 in
theorem y_MO_all_36 {X : ab_X} {d : Nat} {Q : Outcome → ab_G → Prop} {o : Nat → Nat} {G0 : ab_G} {m_thrown : Int} {m_taped : Int} {m_length : Int} {m_out : Int} {m_gathered : Int} {m_sets : Int} {m_ranges : Int} {m_nodes : Int} {m_at : Int} {m_flags : Int} {m_fault : Int} {m_place : Int} {m_numbered : Int} {m_depth : Int} {m_value : Int} {m_isNot : Int} {m_least0 : Int} {m_most0 : Int} {m_slot : Int} {m_work : Int} {m_got : Int} {m_rowMany : Int} {m_isMatch : Int} {m_matchGroups : Int} {m_pieces : Int} {m_writtenMany : Int} {m_templateWide : Int} {m_tooMuch : Int} {A_flagsOf : Int → Int} {A_step : Int → Int} {A_next : Int → Int} {A_more : Int → Int} {A_classAt : Int → Int} {A_classMany : Int → Int} {A_classLow : Int → Int} {A_classHigh : Int → Int} {A_subject : Int → Int} {A_stepMany : Int → Int} {A_entry : Int → Int} {CN : Int → Int} {s : Int} (n18 : ab_n0 = 18) (cle : 0 ≤ m_length ∧ m_length ≤ 2000) (cs : 0 ≤ s ∧ s ≤ 5 ∧ 0 ≤ (A_stepMany s) ∧ (A_stepMany s) ≤ 12500) (jsg : sgood A_step A_next A_more A_classAt A_classMany (12500 * s) (A_stepMany s)) (jst : rgs A_step 75000 0 6) (jcl : rgs A_classLow 3600 0 1114111) (jch : rgs A_classHigh 3600 0 1114111) (jsb : rgs A_subject 2000 0 255) (cen : 0 ≤ (A_entry s) ∧ (A_entry s) < (A_stepMany s)) (cfl : 0 ≤ A_flagsOf s ∧ A_flagsOf s ≤ 31) (hnr : nrows A_step A_next A_more A_classAt A_classMany A_classLow A_classHigh A_subject CN m_length (12500 * s) (A_stepMany s) m_length 0 (0 - 1)) (hd : 10 ≤ d) : ∀ (mz : Nat) {G : ab_G} {m_wide : Int} {m_charAt : Int} {m_charWide : Int} {m_trail : Int} {m_allFrom : Int} {m_allBefore : Int} {JU : Int → Int} {CO : Int → Int} {ZN : Int → Int} {ZS : Int → Int} {SP : Int → Int} {PL : Int → Int} {PT : Int → Int} {TS : Int → Int} {TO : Int → Int} {m_founds : Int} {FA : Int → Int}, (cc o G 80 280 (ab_ob 12 (mof m_thrown m_taped m_length m_out m_wide m_gathered m_sets m_ranges m_nodes m_at m_flags m_fault m_place m_numbered m_depth m_value m_isNot m_least0 m_most0 m_slot m_work m_got m_rowMany m_charAt m_charWide m_trail m_isMatch m_matchGroups m_allFrom m_allBefore m_founds m_pieces m_writtenMany m_templateWide m_tooMuch))) → (cc o G 134 334 (zl 392196 CN)) → (cc o G 135 335 (zl 392196 JU)) → (cc o G 136 336 (zl 392196 CO)) → (cc o G 137 337 (zb 12500 ZN)) → (cc o G 144 344 (zb 12500 ZS)) → (cc o G 138 338 (za 20 SP)) → (cc o G 142 342 (za 25000 PL)) → (cc o G 143 343 (za 25000 PT)) → (cc o G 140 340 (za 12500 TS)) → (cc o G 141 341 (za 12500 TO)) → (cc o G 116 316 (za 6 A_flagsOf)) → (cc o G 118 318 (za 75000 A_step)) → (cc o G 119 319 (za 75000 A_next)) → (cc o G 120 320 (za 75000 A_more)) → (cc o G 121 321 (za 75000 A_classAt)) → (cc o G 122 322 (za 75000 A_classMany)) → (cc o G 123 323 (za 3600 A_classLow)) → (cc o G 124 324 (za 3600 A_classHigh)) → (cc o G 85 285 (za 2000 A_subject)) → (cc o G 117 317 (za 6 A_stepMany)) → (cc o G 113 313 (za 6 A_entry)) → (cc o G 145 345 (za 4100 FA)) → (-1 ≤ m_allBefore ∧ m_allBefore ≤ m_allFrom ∧ 0 ≤ m_allFrom ∧ m_allFrom ≤ m_length + 1 ∧ m_allBefore ≤ m_length) → (0 ≤ m_founds ∧ m_founds ≤ m_allBefore + 1) → (rgs ZN 12500 0 1) → (rgs ZS 12500 0 1) → (rgs SP 20 (-1) 2000) → (rgs PT 25000 0 12500) → (rgs TS 12500 0 19) → (rgs TO 12500 (-1) 2000) → (fx o o [280, 335, 336, 337, 344, 338, 342, 343, 340, 341, 345] G0 G) → (G.length = G0.length) → (ab_slots G = ab_slots G0) → (Int.toNat (m_length + 1 - m_allBefore) < mz) → (∀ (G2 : ab_G) (w2 : Int) (c2 : Int) (cw2 : Int) (t2 : Int) (JU2 : Int → Int) (CO2 : Int → Int) (ZN2 : Int → Int) (ZS2 : Int → Int) (SP2 : Int → Int) (PL2 : Int → Int) (PT2 : Int → Int) (TS2 : Int → Int) (TO2 : Int → Int) (af2 : Int) (ab2 : Int) (FA2 : Int → Int) (n2 : Int), (cc o G2 80 280 (ab_ob 12 (mof m_thrown m_taped m_length m_out w2 m_gathered m_sets m_ranges m_nodes m_at m_flags m_fault m_place m_numbered m_depth m_value m_isNot m_least0 m_most0 m_slot m_work m_got m_rowMany c2 cw2 t2 m_isMatch m_matchGroups af2 ab2 n2 m_pieces m_writtenMany m_templateWide m_tooMuch))) → (cc o G2 135 335 (zl 392196 JU2)) → (cc o G2 136 336 (zl 392196 CO2)) → (cc o G2 137 337 (zb 12500 ZN2)) → (cc o G2 144 344 (zb 12500 ZS2)) → (cc o G2 138 338 (za 20 SP2)) → (cc o G2 142 342 (za 25000 PL2)) → (cc o G2 143 343 (za 25000 PT2)) → (cc o G2 140 340 (za 12500 TS2)) → (cc o G2 141 341 (za 12500 TO2)) → (cc o G2 145 345 (za 4100 FA2)) → (rgs ZN2 12500 0 1) → (rgs ZS2 12500 0 1) → (rgs SP2 20 (-1) 2000) → (rgs PT2 25000 0 12500) → (rgs TS2 12500 0 19) → (rgs TO2 12500 (-1) 2000) → (0 ≤ n2 ∧ n2 ≤ m_length + 1) → (fx o o [280, 335, 336, 337, 344, 338, 342, 343, 340, 341, 345] G0 G2) → (G2.length = G0.length) → (ab_slots G2 = ab_slots G0) → ab_W X (ab_pl y_MO_all b_MO_all 2 (some (.int))) d G2 93 [some (vR 80), none] [] Q) → ab_W X (ab_pl y_MO_all b_MO_all 2 (some (.int))) d G 36 [some (vR 80), some (vz s)] [] Q := by
  intro mz
  induction mz with
  | zero => intro G m_wide m_charAt m_charWide m_trail m_allFrom m_allBefore JU CO ZN ZS SP PL PT TS TO m_founds FA h80 h134 h135 h136 h137 h144 h138 h142 h143 h140 h141 h116 h118 h119 h120 h121 h122 h123 h124 h85 h117 h113 h145 cab cnt jn jse jsp jpt jts jto hfr hlen hsl hm hk0; exact absurd hm (Nat.not_lt_zero _)
  | succ mz ih =>
    intro G m_wide m_charAt m_charWide m_trail m_allFrom m_allBefore JU CO ZN ZS SP PL PT TS TO m_founds FA h80 h134 h135 h136 h137 h144 h138 h142 h143 h140 h141 h116 h118 h119 h120 h121 h122 h123 h124 h85 h117 h113 h145 cab cnt jn jse jsp jpt jts jto hfr hlen hsl hm hk0
    refine ab_aload_n d_MO_all_36 rfl ?_
    refine ab_iload_n d_MO_all_37 rfl ?_
    refine ab_callV (d' := d - 1) (as := [vz s]) (st := []) (r := _) (z_MO_nextMatch (o := o) (m_thrown := m_thrown) (m_taped := m_taped) (m_length := m_length) (m_out := m_out) (m_wide := m_wide) (m_gathered := m_gathered) (m_sets := m_sets) (m_ranges := m_ranges) (m_nodes := m_nodes) (m_at := m_at) (m_flags := m_flags) (m_fault := m_fault) (m_place := m_place) (m_numbered := m_numbered) (m_depth := m_depth) (m_value := m_value) (m_isNot := m_isNot) (m_least0 := m_least0) (m_most0 := m_most0) (m_slot := m_slot) (m_work := m_work) (m_got := m_got) (m_rowMany := m_rowMany) (m_charAt := m_charAt) (m_charWide := m_charWide) (m_trail := m_trail) (m_isMatch := m_isMatch) (m_matchGroups := m_matchGroups) (m_allFrom := m_allFrom) (m_allBefore := m_allBefore) (m_founds := m_founds) (m_pieces := m_pieces) (m_writtenMany := m_writtenMany) (m_templateWide := m_templateWide) (m_tooMuch := m_tooMuch) (A_flagsOf := A_flagsOf) (A_step := A_step) (A_next := A_next) (A_more := A_more) (A_classAt := A_classAt) (A_classMany := A_classMany) (A_classLow := A_classLow) (A_classHigh := A_classHigh) (A_subject := A_subject) (A_stepMany := A_stepMany) (A_entry := A_entry) (CN := CN) (JU := JU) (CO := CO) (ZN := ZN) (ZS := ZS) (SP := SP) (PL := PL) (PT := PT) (TS := TS) (TO := TO) (s := s) h80 h134 h135 h136 h137 h144 h138 h142 h143 h140 h141 h116 h118 h119 h120 h121 h122 h123 h124 h85 h117 h113 (by omega) (by omega) (by omega) jsg jst jcl jch jsb (by omega) (by omega) hnr (by omega) jn jse jsp jpt jts jto (by omega)) (fun oc G2 h => by rcases h with ⟨_, _, _, _, _, _, _, _, _, _, _, _, _, _, _, h, _⟩ | ⟨_, _, _, _, _, _, _, _, _, _, _, _, _, _, _, h, _⟩ <;> exact ⟨_, h⟩) (by omega) m_MO_nextMatch ml_MO_585 im_MO_nextMatch se_MO_nextMatch c_MO h80.2.2 (Nat.le_of_ble_eq_true rfl) d_MO_all_38 rfl ?_
    intro v G1 hq
    rcases hq with ⟨w22, c23, cw24, t25, JU26, CO27, ZN28, ZS29, SP210, PL211, PT212, TS213, TO214, af215, ab216, hv, hfk, hlk, hsk, hN80, hN135, hN136, hN137, hN144, hN138, hN142, hN143, hN140, hN141, hq17, hq18, hq19, hq20, hq21, hq22, hq23, hq24⟩ | ⟨w225, c226, cw227, t228, JU229, CO230, ZN231, ZS232, SP233, PL234, PT235, TS236, TO237, af238, ab239, hv, hfk, hlk, hsk, hN80, hN135, hN136, hN137, hN144, hN138, hN142, hN143, hN140, hN141, hq40, hq41, hq42, hq43, hq44, hq45⟩
    · cases hv
      have h134 := hfk.get h134 (by decide)
      have h116 := hfk.get h116 (by decide)
      have h118 := hfk.get h118 (by decide)
      have h119 := hfk.get h119 (by decide)
      have h120 := hfk.get h120 (by decide)
      have h121 := hfk.get h121 (by decide)
      have h122 := hfk.get h122 (by decide)
      have h123 := hfk.get h123 (by decide)
      have h124 := hfk.get h124 (by decide)
      have h85 := hfk.get h85 (by decide)
      have h117 := hfk.get h117 (by decide)
      have h113 := hfk.get h113 (by decide)
      have h145 := hfk.get h145 (by decide)
      have hfr := hfr.tr hfk (by decide)
      have hlen := hlk.trans hlen
      have hsl := hsk.trans hsl
      have h80 := hN80
      have h135 := hN135
      have h136 := hN136
      have h137 := hN137
      have h144 := hN144
      have h138 := hN138
      have h142 := hN142
      have h143 := hN143
      have h140 := hN140
      have h141 := hN141
      change ab_W _ _ _ G1 41 [some (vR 80), some (vz s)] [vz 1] _
      refine zz_if_eq (tgt := 93) d_MO_all_41 (by decide) (by decide) (fun c46 => absurd c46 (by decide)) (fun c46 => ?_)
      refine ab_aload_n d_MO_all_44 rfl ?_
      refine ab_getf (fs := mof m_thrown m_taped m_length m_out w22 m_gathered m_sets m_ranges m_nodes m_at m_flags m_fault m_place m_numbered m_depth m_value m_isNot m_least0 m_most0 m_slot m_work m_got m_rowMany c23 cw24 t25 m_isMatch m_matchGroups af215 ab216 m_founds m_pieces m_writtenMany m_templateWide m_tooMuch) f_MO_211 d_MO_all_45 h80.2.2 rfl ?_
      refine zz_iconst d_MO_all_48 ?_
      refine ab_aload_n d_MO_all_49 rfl ?_
      refine ab_getf (fs := mof m_thrown m_taped m_length m_out w22 m_gathered m_sets m_ranges m_nodes m_at m_flags m_fault m_place m_numbered m_depth m_value m_isNot m_least0 m_most0 m_slot m_work m_got m_rowMany c23 cw24 t25 m_isMatch m_matchGroups af215 ab216 m_founds m_pieces m_writtenMany m_templateWide m_tooMuch) f_MO_579 d_MO_all_50 h80.2.2 rfl ?_
      refine zz_imul d_MO_all_53 ?_
      refine ab_aload_n d_MO_all_54 rfl ?_
      refine ab_getf (fs := mof m_thrown m_taped m_length m_out w22 m_gathered m_sets m_ranges m_nodes m_at m_flags m_fault m_place m_numbered m_depth m_value m_isNot m_least0 m_most0 m_slot m_work m_got m_rowMany c23 cw24 t25 m_isMatch m_matchGroups af215 ab216 m_founds m_pieces m_writtenMany m_templateWide m_tooMuch) f_MO_190 d_MO_all_55 h80.2.2 rfl ?_
      refine zz_iconst d_MO_all_58 ?_
      refine zz_iald d_MO_all_59 h138 (by omega) ?_
      refine zz_iast d_MO_all_60 h145 (by omega) (h145.2.1 (by decide)) ?_
      obtain ⟨G47, eG47⟩ : ∃ z : ab_G, z = List.set G1 145 (za 4100 (zu FA (2 * m_founds) (SP210 0))) := ⟨_, rfl⟩
      have h80 := h80.keep h145 eG47 (by decide)
      have h134 := h134.keep h145 eG47 (by decide)
      have h135 := h135.keep h145 eG47 (by decide)
      have h136 := h136.keep h145 eG47 (by decide)
      have h137 := h137.keep h145 eG47 (by decide)
      have h144 := h144.keep h145 eG47 (by decide)
      have h138 := h138.keep h145 eG47 (by decide)
      have h142 := h142.keep h145 eG47 (by decide)
      have h143 := h143.keep h145 eG47 (by decide)
      have h140 := h140.keep h145 eG47 (by decide)
      have h141 := h141.keep h145 eG47 (by decide)
      have h116 := h116.keep h145 eG47 (by decide)
      have h118 := h118.keep h145 eG47 (by decide)
      have h119 := h119.keep h145 eG47 (by decide)
      have h120 := h120.keep h145 eG47 (by decide)
      have h121 := h121.keep h145 eG47 (by decide)
      have h122 := h122.keep h145 eG47 (by decide)
      have h123 := h123.keep h145 eG47 (by decide)
      have h124 := h124.keep h145 eG47 (by decide)
      have h85 := h85.keep h145 eG47 (by decide)
      have h117 := h117.keep h145 eG47 (by decide)
      have h113 := h113.keep h145 eG47 (by decide)
      have hlen := (z_len eG47).trans hlen
      have hsl := (z_sl h145 eG47 rfl).trans hsl
      have hfr := hfr.wr h145 eG47 (by decide)
      have h145 := h145.kept eG47
      change ab_W _ _ _ (List.set G1 145 (za 4100 (zu FA (2 * m_founds) (SP210 0)))) 61 [some (vR 80), some (vz s)] [] _
      rw [← eG47]
      refine ab_aload_n d_MO_all_61 rfl ?_
      refine ab_getf (fs := mof m_thrown m_taped m_length m_out w22 m_gathered m_sets m_ranges m_nodes m_at m_flags m_fault m_place m_numbered m_depth m_value m_isNot m_least0 m_most0 m_slot m_work m_got m_rowMany c23 cw24 t25 m_isMatch m_matchGroups af215 ab216 m_founds m_pieces m_writtenMany m_templateWide m_tooMuch) f_MO_211 d_MO_all_62 h80.2.2 rfl ?_
      refine zz_iconst d_MO_all_65 ?_
      refine ab_aload_n d_MO_all_66 rfl ?_
      refine ab_getf (fs := mof m_thrown m_taped m_length m_out w22 m_gathered m_sets m_ranges m_nodes m_at m_flags m_fault m_place m_numbered m_depth m_value m_isNot m_least0 m_most0 m_slot m_work m_got m_rowMany c23 cw24 t25 m_isMatch m_matchGroups af215 ab216 m_founds m_pieces m_writtenMany m_templateWide m_tooMuch) f_MO_579 d_MO_all_67 h80.2.2 rfl ?_
      refine zz_imul d_MO_all_70 ?_
      refine zz_iconst d_MO_all_71 ?_
      refine zz_iadd d_MO_all_72 ?_
      refine ab_aload_n d_MO_all_73 rfl ?_
      refine ab_getf (fs := mof m_thrown m_taped m_length m_out w22 m_gathered m_sets m_ranges m_nodes m_at m_flags m_fault m_place m_numbered m_depth m_value m_isNot m_least0 m_most0 m_slot m_work m_got m_rowMany c23 cw24 t25 m_isMatch m_matchGroups af215 ab216 m_founds m_pieces m_writtenMany m_templateWide m_tooMuch) f_MO_190 d_MO_all_74 h80.2.2 rfl ?_
      refine zz_iconst d_MO_all_77 ?_
      refine zz_iald d_MO_all_78 h138 (by omega) ?_
      refine zz_iast d_MO_all_79 h145 (by omega) (h145.2.1 (by decide)) ?_
      obtain ⟨G48, eG48⟩ : ∃ z : ab_G, z = List.set G47 145 (za 4100 (zu (zu FA (2 * m_founds) (SP210 0)) ((2 * m_founds) + 1) (SP210 1))) := ⟨_, rfl⟩
      have h80 := h80.keep h145 eG48 (by decide)
      have h134 := h134.keep h145 eG48 (by decide)
      have h135 := h135.keep h145 eG48 (by decide)
      have h136 := h136.keep h145 eG48 (by decide)
      have h137 := h137.keep h145 eG48 (by decide)
      have h144 := h144.keep h145 eG48 (by decide)
      have h138 := h138.keep h145 eG48 (by decide)
      have h142 := h142.keep h145 eG48 (by decide)
      have h143 := h143.keep h145 eG48 (by decide)
      have h140 := h140.keep h145 eG48 (by decide)
      have h141 := h141.keep h145 eG48 (by decide)
      have h116 := h116.keep h145 eG48 (by decide)
      have h118 := h118.keep h145 eG48 (by decide)
      have h119 := h119.keep h145 eG48 (by decide)
      have h120 := h120.keep h145 eG48 (by decide)
      have h121 := h121.keep h145 eG48 (by decide)
      have h122 := h122.keep h145 eG48 (by decide)
      have h123 := h123.keep h145 eG48 (by decide)
      have h124 := h124.keep h145 eG48 (by decide)
      have h85 := h85.keep h145 eG48 (by decide)
      have h117 := h117.keep h145 eG48 (by decide)
      have h113 := h113.keep h145 eG48 (by decide)
      have hlen := (z_len eG48).trans hlen
      have hsl := (z_sl h145 eG48 rfl).trans hsl
      have hfr := hfr.wr h145 eG48 (by decide)
      have h145 := h145.kept eG48
      change ab_W _ _ _ (List.set G47 145 (za 4100 (zu (zu FA (2 * m_founds) (SP210 0)) ((2 * m_founds) + 1) (SP210 1)))) 80 [some (vR 80), some (vz s)] [] _
      rw [← eG48]
      refine ab_aload_n d_MO_all_80 rfl ?_
      refine ab_dup d_MO_all_81 rfl ?_
      refine ab_getf (fs := mof m_thrown m_taped m_length m_out w22 m_gathered m_sets m_ranges m_nodes m_at m_flags m_fault m_place m_numbered m_depth m_value m_isNot m_least0 m_most0 m_slot m_work m_got m_rowMany c23 cw24 t25 m_isMatch m_matchGroups af215 ab216 m_founds m_pieces m_writtenMany m_templateWide m_tooMuch) f_MO_579 d_MO_all_82 h80.2.2 rfl ?_
      refine zz_iconst d_MO_all_85 ?_
      refine zz_iadd d_MO_all_86 ?_
      refine ab_putf (fs := mof m_thrown m_taped m_length m_out w22 m_gathered m_sets m_ranges m_nodes m_at m_flags m_fault m_place m_numbered m_depth m_value m_isNot m_least0 m_most0 m_slot m_work m_got m_rowMany c23 cw24 t25 m_isMatch m_matchGroups af215 ab216 m_founds m_pieces m_writtenMany m_templateWide m_tooMuch) f_MO_579 (Or.inl rfl) d_MO_all_87 h80.2.2 (Nat.le_of_ble_eq_true rfl) (fun _ => ⟨rfl, rfl⟩) (h80.2.1 (by decide)) ?_
      obtain ⟨G49, eG49⟩ : ∃ z : ab_G, z = List.set G48 80 (ab_ob 12 (mof m_thrown m_taped m_length m_out w22 m_gathered m_sets m_ranges m_nodes m_at m_flags m_fault m_place m_numbered m_depth m_value m_isNot m_least0 m_most0 m_slot m_work m_got m_rowMany c23 cw24 t25 m_isMatch m_matchGroups af215 ab216 (m_founds + 1) m_pieces m_writtenMany m_templateWide m_tooMuch)) := ⟨_, rfl⟩
      have h134 := h134.keep h80 eG49 (by decide)
      have h135 := h135.keep h80 eG49 (by decide)
      have h136 := h136.keep h80 eG49 (by decide)
      have h137 := h137.keep h80 eG49 (by decide)
      have h144 := h144.keep h80 eG49 (by decide)
      have h138 := h138.keep h80 eG49 (by decide)
      have h142 := h142.keep h80 eG49 (by decide)
      have h143 := h143.keep h80 eG49 (by decide)
      have h140 := h140.keep h80 eG49 (by decide)
      have h141 := h141.keep h80 eG49 (by decide)
      have h116 := h116.keep h80 eG49 (by decide)
      have h118 := h118.keep h80 eG49 (by decide)
      have h119 := h119.keep h80 eG49 (by decide)
      have h120 := h120.keep h80 eG49 (by decide)
      have h121 := h121.keep h80 eG49 (by decide)
      have h122 := h122.keep h80 eG49 (by decide)
      have h123 := h123.keep h80 eG49 (by decide)
      have h124 := h124.keep h80 eG49 (by decide)
      have h85 := h85.keep h80 eG49 (by decide)
      have h117 := h117.keep h80 eG49 (by decide)
      have h113 := h113.keep h80 eG49 (by decide)
      have h145 := h145.keep h80 eG49 (by decide)
      have hlen := (z_len eG49).trans hlen
      have hsl := (z_sl h80 eG49 rfl).trans hsl
      have hfr := hfr.wr h80 eG49 (by decide)
      have h80 := h80.kept eG49
      change ab_W _ _ _ (List.set G48 80 (ab_ob 12 (mof m_thrown m_taped m_length m_out w22 m_gathered m_sets m_ranges m_nodes m_at m_flags m_fault m_place m_numbered m_depth m_value m_isNot m_least0 m_most0 m_slot m_work m_got m_rowMany c23 cw24 t25 m_isMatch m_matchGroups af215 ab216 (m_founds + 1) m_pieces m_writtenMany m_templateWide m_tooMuch))) 90 [some (vR 80), some (vz s)] [] _
      rw [← eG49]
      refine ab_goto (tgt := 36) d_MO_all_90 (by decide) ?_
      exact ih (m_wide := w22) (m_charAt := c23) (m_charWide := cw24) (m_trail := t25) (m_allFrom := af215) (m_allBefore := ab216) (JU := JU26) (CO := CO27) (ZN := ZN28) (ZS := ZS29) (SP := SP210) (PL := PL211) (PT := PT212) (TS := TS213) (TO := TO214) (m_founds := (m_founds + 1)) (FA := (zu (zu FA (2 * m_founds) (SP210 0)) ((2 * m_founds) + 1) (SP210 1))) h80 h134 h135 h136 h137 h144 h138 h142 h143 h140 h141 h116 h118 h119 h120 h121 h122 h123 h124 h85 h117 h113 h145 (by omega) (by omega) hq17 hq18 hq19 hq20 hq21 hq22 hfr hlen hsl (by omega) hk0
    · cases hv
      have h134 := hfk.get h134 (by decide)
      have h116 := hfk.get h116 (by decide)
      have h118 := hfk.get h118 (by decide)
      have h119 := hfk.get h119 (by decide)
      have h120 := hfk.get h120 (by decide)
      have h121 := hfk.get h121 (by decide)
      have h122 := hfk.get h122 (by decide)
      have h123 := hfk.get h123 (by decide)
      have h124 := hfk.get h124 (by decide)
      have h85 := hfk.get h85 (by decide)
      have h117 := hfk.get h117 (by decide)
      have h113 := hfk.get h113 (by decide)
      have h145 := hfk.get h145 (by decide)
      have hfr := hfr.tr hfk (by decide)
      have hlen := hlk.trans hlen
      have hsl := hsk.trans hsl
      have h80 := hN80
      have h135 := hN135
      have h136 := hN136
      have h137 := hN137
      have h144 := hN144
      have h138 := hN138
      have h142 := hN142
      have h143 := hN143
      have h140 := hN140
      have h141 := hN141
      change ab_W _ _ _ G1 41 [some (vR 80), some (vz s)] [vz 0] _
      refine zz_if_eq (tgt := 93) d_MO_all_41 (by decide) (by decide) (fun c50 => ?_) (fun c50 => absurd c50 (by decide))
      refine ab_less (L' := [some (vR 80), none]) (fun i v h => by rcases i with _ | _ | i <;> first | exact h | (simp at h)) ?_
      exact hk0 _ _ _ _ _ _ _ _ _ _ _ _ _ _ _ _ _ _ h80 h135 h136 h137 h144 h138 h142 h143 h140 h141 h145 (by first | exact hq40 | exact rgs_w hq40 (by omega)) (by first | exact hq41 | exact rgs_w hq41 (by omega)) (by first | exact hq42 | exact rgs_w hq42 (by omega)) (by first | exact hq43 | exact rgs_w hq43 (by omega)) (by first | exact hq44 | exact rgs_w hq44 (by omega)) (by first | exact hq45 | exact rgs_w hq45 (by omega)) (by omega) hfr hlen hsl
set_option maxRecDepth 100000 in
set_option maxHeartbeats 4000000 in
theorem z_MO_all {X : ab_X} {d : Nat} {o : Nat → Nat} {G : ab_G} {m_thrown : Int} {m_taped : Int} {m_length : Int} {m_out : Int} {m_wide : Int} {m_gathered : Int} {m_sets : Int} {m_ranges : Int} {m_nodes : Int} {m_at : Int} {m_flags : Int} {m_fault : Int} {m_place : Int} {m_numbered : Int} {m_depth : Int} {m_value : Int} {m_isNot : Int} {m_least0 : Int} {m_most0 : Int} {m_slot : Int} {m_work : Int} {m_got : Int} {m_rowMany : Int} {m_charAt : Int} {m_charWide : Int} {m_trail : Int} {m_isMatch : Int} {m_matchGroups : Int} {m_allFrom : Int} {m_allBefore : Int} {m_founds : Int} {m_pieces : Int} {m_writtenMany : Int} {m_templateWide : Int} {m_tooMuch : Int} {A_there : Int → Int} {A_groupsOf : Int → Int} {A_flagsOf : Int → Int} {A_step : Int → Int} {A_next : Int → Int} {A_more : Int → Int} {A_classAt : Int → Int} {A_classMany : Int → Int} {A_classLow : Int → Int} {A_classHigh : Int → Int} {A_subject : Int → Int} {A_stepMany : Int → Int} {A_entry : Int → Int} {CN : Int → Int} {JU : Int → Int} {CO : Int → Int} {ZN : Int → Int} {ZS : Int → Int} {SP : Int → Int} {PL : Int → Int} {PT : Int → Int} {TS : Int → Int} {TO : Int → Int} {FA : Int → Int} {s : Int} (h80 : cc o G 80 280 (ab_ob 12 (mof m_thrown m_taped m_length m_out m_wide m_gathered m_sets m_ranges m_nodes m_at m_flags m_fault m_place m_numbered m_depth m_value m_isNot m_least0 m_most0 m_slot m_work m_got m_rowMany m_charAt m_charWide m_trail m_isMatch m_matchGroups m_allFrom m_allBefore m_founds m_pieces m_writtenMany m_templateWide m_tooMuch))) (h145 : cc o G 145 345 (za 4100 FA)) (h134 : cc o G 134 334 (zl 392196 CN)) (h135 : cc o G 135 335 (zl 392196 JU)) (h136 : cc o G 136 336 (zl 392196 CO)) (h137 : cc o G 137 337 (zb 12500 ZN)) (h144 : cc o G 144 344 (zb 12500 ZS)) (h138 : cc o G 138 338 (za 20 SP)) (h142 : cc o G 142 342 (za 25000 PL)) (h143 : cc o G 143 343 (za 25000 PT)) (h140 : cc o G 140 340 (za 12500 TS)) (h141 : cc o G 141 341 (za 12500 TO)) (h112 : cc o G 112 312 (zb 6 A_there)) (h114 : cc o G 114 314 (za 6 A_groupsOf)) (h116 : cc o G 116 316 (za 6 A_flagsOf)) (h118 : cc o G 118 318 (za 75000 A_step)) (h119 : cc o G 119 319 (za 75000 A_next)) (h120 : cc o G 120 320 (za 75000 A_more)) (h121 : cc o G 121 321 (za 75000 A_classAt)) (h122 : cc o G 122 322 (za 75000 A_classMany)) (h123 : cc o G 123 323 (za 3600 A_classLow)) (h124 : cc o G 124 324 (za 3600 A_classHigh)) (h85 : cc o G 85 285 (za 2000 A_subject)) (h117 : cc o G 117 317 (za 6 A_stepMany)) (h113 : cc o G 113 313 (za 6 A_entry)) (n18 : ab_n0 = 18) (cle : 0 ≤ m_length ∧ m_length ≤ 2000) (jth : rgs A_there 6 0 1) (jpg : mpg A_there A_step A_next A_more A_classAt A_classMany A_stepMany A_entry A_groupsOf A_flagsOf) (jst : rgs A_step 75000 0 6) (jcl : rgs A_classLow 3600 0 1114111) (jch : rgs A_classHigh 3600 0 1114111) (jsb : rgs A_subject 2000 0 255) (cr : -2147483648 ≤ s ∧ s ≤ 2147483647) (cn0 : 0 ≤ m_founds ∧ m_founds ≤ 2050) (jn : rgs ZN 12500 0 1) (jse : rgs ZS 12500 0 1) (jsp : rgs SP 20 (-1) 2000) (jpt : rgs PT 25000 0 12500) (jts : rgs TS 12500 0 19) (jto : rgs TO 12500 (-1) 2000) (hd : 11 ≤ d) : ab_F X d y_MO_all (.code y_MO_all b_MO_all 2 (some (.int))) [vR 80, vz s] G (fun oc G2 => ∃ v : Int, ∃ th2 : Int, ∃ n2 : Int, ∃ af2 : Int, ∃ ab2 : Int, ∃ w2 : Int, ∃ c2 : Int, ∃ cw2 : Int, ∃ t2 : Int, ∃ JU2 : Int → Int, ∃ CO2 : Int → Int, ∃ ZN2 : Int → Int, ∃ ZS2 : Int → Int, ∃ SP2 : Int → Int, ∃ PL2 : Int → Int, ∃ PT2 : Int → Int, ∃ TS2 : Int → Int, ∃ TO2 : Int → Int, ∃ CN2 : Int → Int, ∃ FA2 : Int → Int, oc = .returned (some (vz v)) ∧ fx o o [280, 334, 335, 336, 337, 344, 338, 342, 343, 340, 341, 345] G G2 ∧ G2.length = G.length ∧ ab_slots G2 = ab_slots G ∧ cc o G2 80 280 (ab_ob 12 (mof th2 m_taped m_length m_out w2 m_gathered m_sets m_ranges m_nodes m_at m_flags m_fault m_place m_numbered m_depth m_value m_isNot m_least0 m_most0 m_slot m_work m_got m_rowMany c2 cw2 t2 m_isMatch m_matchGroups af2 ab2 n2 m_pieces m_writtenMany m_templateWide m_tooMuch)) ∧ cc o G2 135 335 (zl 392196 JU2) ∧ cc o G2 136 336 (zl 392196 CO2) ∧ cc o G2 137 337 (zb 12500 ZN2) ∧ cc o G2 144 344 (zb 12500 ZS2) ∧ cc o G2 138 338 (za 20 SP2) ∧ cc o G2 142 342 (za 25000 PL2) ∧ cc o G2 143 343 (za 25000 PT2) ∧ cc o G2 140 340 (za 12500 TS2) ∧ cc o G2 141 341 (za 12500 TO2) ∧ cc o G2 134 334 (zl 392196 CN2) ∧ cc o G2 145 345 (za 4100 FA2) ∧ (rgs ZN2 12500 0 1) ∧ (rgs ZS2 12500 0 1) ∧ (rgs SP2 20 (-1) 2000) ∧ (rgs PT2 25000 0 12500) ∧ (rgs TS2 12500 0 19) ∧ (rgs TO2 12500 (-1) 2000) ∧ (0 ≤ n2 ∧ n2 ≤ 2050)) := by
  refine ab_F_of (by decide +kernel) (Nat.le_of_ble_eq_true rfl) ?_
  obtain ⟨Q, hQ⟩ : ∃ z : Outcome → ab_G → Prop, z = (fun oc G2 => ∃ v : Int, ∃ th2 : Int, ∃ n2 : Int, ∃ af2 : Int, ∃ ab2 : Int, ∃ w2 : Int, ∃ c2 : Int, ∃ cw2 : Int, ∃ t2 : Int, ∃ JU2 : Int → Int, ∃ CO2 : Int → Int, ∃ ZN2 : Int → Int, ∃ ZS2 : Int → Int, ∃ SP2 : Int → Int, ∃ PL2 : Int → Int, ∃ PT2 : Int → Int, ∃ TS2 : Int → Int, ∃ TO2 : Int → Int, ∃ CN2 : Int → Int, ∃ FA2 : Int → Int, oc = .returned (some (vz v)) ∧ fx o o [280, 334, 335, 336, 337, 344, 338, 342, 343, 340, 341, 345] G G2 ∧ G2.length = G.length ∧ ab_slots G2 = ab_slots G ∧ cc o G2 80 280 (ab_ob 12 (mof th2 m_taped m_length m_out w2 m_gathered m_sets m_ranges m_nodes m_at m_flags m_fault m_place m_numbered m_depth m_value m_isNot m_least0 m_most0 m_slot m_work m_got m_rowMany c2 cw2 t2 m_isMatch m_matchGroups af2 ab2 n2 m_pieces m_writtenMany m_templateWide m_tooMuch)) ∧ cc o G2 135 335 (zl 392196 JU2) ∧ cc o G2 136 336 (zl 392196 CO2) ∧ cc o G2 137 337 (zb 12500 ZN2) ∧ cc o G2 144 344 (zb 12500 ZS2) ∧ cc o G2 138 338 (za 20 SP2) ∧ cc o G2 142 342 (za 25000 PL2) ∧ cc o G2 143 343 (za 25000 PT2) ∧ cc o G2 140 340 (za 12500 TS2) ∧ cc o G2 141 341 (za 12500 TO2) ∧ cc o G2 134 334 (zl 392196 CN2) ∧ cc o G2 145 345 (za 4100 FA2) ∧ (rgs ZN2 12500 0 1) ∧ (rgs ZS2 12500 0 1) ∧ (rgs SP2 20 (-1) 2000) ∧ (rgs PT2 25000 0 12500) ∧ (rgs TS2 12500 0 19) ∧ (rgs TO2 12500 (-1) 2000) ∧ (0 ≤ n2 ∧ n2 ≤ 2050)) := ⟨_, rfl⟩
  rw [← hQ]
  change ab_W X (ab_pl y_MO_all b_MO_all 2 (some (.int))) d G 0 [some (vR 80), some (vz s)] [] Q
  have hfr : fx o o [280, 334, 335, 336, 337, 344, 338, 342, 343, 340, 341, 345] G G := fx.rf
  have hlen : G.length = G.length := rfl
  have hsl : ab_slots G = ab_slots G := rfl
  refine ab_aload_n d_MO_all_0 rfl ?_
  refine ab_aload_n d_MO_all_1 rfl ?_
  refine ab_iload_n d_MO_all_2 rfl ?_
  refine ab_callV (d' := d - 1) (as := [vz s]) (st := [vR 80]) (r := _) (z_MO_isThere (o := o) (m_thrown := m_thrown) (m_taped := m_taped) (m_length := m_length) (m_out := m_out) (m_wide := m_wide) (m_gathered := m_gathered) (m_sets := m_sets) (m_ranges := m_ranges) (m_nodes := m_nodes) (m_at := m_at) (m_flags := m_flags) (m_fault := m_fault) (m_place := m_place) (m_numbered := m_numbered) (m_depth := m_depth) (m_value := m_value) (m_isNot := m_isNot) (m_least0 := m_least0) (m_most0 := m_most0) (m_slot := m_slot) (m_work := m_work) (m_got := m_got) (m_rowMany := m_rowMany) (m_charAt := m_charAt) (m_charWide := m_charWide) (m_trail := m_trail) (m_isMatch := m_isMatch) (m_matchGroups := m_matchGroups) (m_allFrom := m_allFrom) (m_allBefore := m_allBefore) (m_founds := m_founds) (m_pieces := m_pieces) (m_writtenMany := m_writtenMany) (m_templateWide := m_templateWide) (m_tooMuch := m_tooMuch) (A_there := A_there) (x := s) h80 h112 (by omega) jth) (fun oc G2 h => by rcases h with ⟨_, h, _⟩ <;> exact ⟨_, h⟩) (by omega) m_MO_isThere ml_MO_507 im_MO_isThere se_MO_isThere c_MO h80.2.2 (Nat.le_of_ble_eq_true rfl) d_MO_all_3 rfl ?_
  intro v G1 hq
  rcases hq with ⟨v2, hv, hGe, hq3, hq4⟩
  cases hv
  rw [hGe]
  change ab_W _ _ _ G 6 [some (vR 80), some (vz s)] [vz v2, vR 80] _
  refine zz_if_eq (tgt := 13) d_MO_all_6 (by decide) (by omega) (fun c5 => ?_) (fun c5 => ?_)
  · refine zz_iconst d_MO_all_13 ?_
    refine ab_putf (fs := mof m_thrown m_taped m_length m_out m_wide m_gathered m_sets m_ranges m_nodes m_at m_flags m_fault m_place m_numbered m_depth m_value m_isNot m_least0 m_most0 m_slot m_work m_got m_rowMany m_charAt m_charWide m_trail m_isMatch m_matchGroups m_allFrom m_allBefore m_founds m_pieces m_writtenMany m_templateWide m_tooMuch) f_MO_220 (Or.inl rfl) d_MO_all_14 h80.2.2 (Nat.le_of_ble_eq_true rfl) (fun _ => ⟨rfl, rfl⟩) (h80.2.1 (by decide)) ?_
    obtain ⟨G6, eG6⟩ : ∃ z : ab_G, z = List.set G 80 (ab_ob 12 (mof 1 m_taped m_length m_out m_wide m_gathered m_sets m_ranges m_nodes m_at m_flags m_fault m_place m_numbered m_depth m_value m_isNot m_least0 m_most0 m_slot m_work m_got m_rowMany m_charAt m_charWide m_trail m_isMatch m_matchGroups m_allFrom m_allBefore m_founds m_pieces m_writtenMany m_templateWide m_tooMuch)) := ⟨_, rfl⟩
    have h145 := h145.keep h80 eG6 (by decide)
    have h134 := h134.keep h80 eG6 (by decide)
    have h135 := h135.keep h80 eG6 (by decide)
    have h136 := h136.keep h80 eG6 (by decide)
    have h137 := h137.keep h80 eG6 (by decide)
    have h144 := h144.keep h80 eG6 (by decide)
    have h138 := h138.keep h80 eG6 (by decide)
    have h142 := h142.keep h80 eG6 (by decide)
    have h143 := h143.keep h80 eG6 (by decide)
    have h140 := h140.keep h80 eG6 (by decide)
    have h141 := h141.keep h80 eG6 (by decide)
    have h112 := h112.keep h80 eG6 (by decide)
    have h114 := h114.keep h80 eG6 (by decide)
    have h116 := h116.keep h80 eG6 (by decide)
    have h118 := h118.keep h80 eG6 (by decide)
    have h119 := h119.keep h80 eG6 (by decide)
    have h120 := h120.keep h80 eG6 (by decide)
    have h121 := h121.keep h80 eG6 (by decide)
    have h122 := h122.keep h80 eG6 (by decide)
    have h123 := h123.keep h80 eG6 (by decide)
    have h124 := h124.keep h80 eG6 (by decide)
    have h85 := h85.keep h80 eG6 (by decide)
    have h117 := h117.keep h80 eG6 (by decide)
    have h113 := h113.keep h80 eG6 (by decide)
    have hlen := (z_len eG6).trans hlen
    have hsl := (z_sl h80 eG6 rfl).trans hsl
    have hfr := hfr.wr h80 eG6 (by decide)
    have h80 := h80.kept eG6
    change ab_W _ _ _ (List.set G 80 (ab_ob 12 (mof 1 m_taped m_length m_out m_wide m_gathered m_sets m_ranges m_nodes m_at m_flags m_fault m_place m_numbered m_depth m_value m_isNot m_least0 m_most0 m_slot m_work m_got m_rowMany m_charAt m_charWide m_trail m_isMatch m_matchGroups m_allFrom m_allBefore m_founds m_pieces m_writtenMany m_templateWide m_tooMuch))) 17 [some (vR 80), some (vz s)] [] _
    rw [← eG6]
    refine ab_aload_n d_MO_all_17 rfl ?_
    refine ab_getf (fs := mof 1 m_taped m_length m_out m_wide m_gathered m_sets m_ranges m_nodes m_at m_flags m_fault m_place m_numbered m_depth m_value m_isNot m_least0 m_most0 m_slot m_work m_got m_rowMany m_charAt m_charWide m_trail m_isMatch m_matchGroups m_allFrom m_allBefore m_founds m_pieces m_writtenMany m_templateWide m_tooMuch) f_MO_220 d_MO_all_18 h80.2.2 rfl ?_
    refine zz_if_le (tgt := 26) d_MO_all_21 (by decide) (by decide) (fun c7 => absurd c7 (by decide)) (fun c7 => ?_)
    refine zz_iconst d_MO_all_24 ?_
    refine zz_iret rfl d_MO_all_25 ?_
    rw [hQ]; exact ⟨_, _, _, _, _, _, _, _, _, _, _, _, _, _, _, _, _, _, _, _, rfl, hfr, hlen, hsl, h80, h135, h136, h137, h144, h138, h142, h143, h140, h141, h134, h145, (by first | exact jn | exact rgs_w jn (by omega)), (by first | exact jse | exact rgs_w jse (by omega)), (by first | exact jsp | exact rgs_w jsp (by omega)), (by first | exact jpt | exact rgs_w jpt (by omega)), (by first | exact jts | exact rgs_w jts (by omega)), (by first | exact jto | exact rgs_w jto (by omega)), (by omega)⟩
  · refine zz_iconst d_MO_all_9 ?_
    refine ab_goto (tgt := 14) d_MO_all_10 (by decide) ?_
    refine ab_putf (fs := mof m_thrown m_taped m_length m_out m_wide m_gathered m_sets m_ranges m_nodes m_at m_flags m_fault m_place m_numbered m_depth m_value m_isNot m_least0 m_most0 m_slot m_work m_got m_rowMany m_charAt m_charWide m_trail m_isMatch m_matchGroups m_allFrom m_allBefore m_founds m_pieces m_writtenMany m_templateWide m_tooMuch) f_MO_220 (Or.inl rfl) d_MO_all_14 h80.2.2 (Nat.le_of_ble_eq_true rfl) (fun _ => ⟨rfl, rfl⟩) (h80.2.1 (by decide)) ?_
    obtain ⟨G8, eG8⟩ : ∃ z : ab_G, z = List.set G 80 (ab_ob 12 (mof 0 m_taped m_length m_out m_wide m_gathered m_sets m_ranges m_nodes m_at m_flags m_fault m_place m_numbered m_depth m_value m_isNot m_least0 m_most0 m_slot m_work m_got m_rowMany m_charAt m_charWide m_trail m_isMatch m_matchGroups m_allFrom m_allBefore m_founds m_pieces m_writtenMany m_templateWide m_tooMuch)) := ⟨_, rfl⟩
    have h145 := h145.keep h80 eG8 (by decide)
    have h134 := h134.keep h80 eG8 (by decide)
    have h135 := h135.keep h80 eG8 (by decide)
    have h136 := h136.keep h80 eG8 (by decide)
    have h137 := h137.keep h80 eG8 (by decide)
    have h144 := h144.keep h80 eG8 (by decide)
    have h138 := h138.keep h80 eG8 (by decide)
    have h142 := h142.keep h80 eG8 (by decide)
    have h143 := h143.keep h80 eG8 (by decide)
    have h140 := h140.keep h80 eG8 (by decide)
    have h141 := h141.keep h80 eG8 (by decide)
    have h112 := h112.keep h80 eG8 (by decide)
    have h114 := h114.keep h80 eG8 (by decide)
    have h116 := h116.keep h80 eG8 (by decide)
    have h118 := h118.keep h80 eG8 (by decide)
    have h119 := h119.keep h80 eG8 (by decide)
    have h120 := h120.keep h80 eG8 (by decide)
    have h121 := h121.keep h80 eG8 (by decide)
    have h122 := h122.keep h80 eG8 (by decide)
    have h123 := h123.keep h80 eG8 (by decide)
    have h124 := h124.keep h80 eG8 (by decide)
    have h85 := h85.keep h80 eG8 (by decide)
    have h117 := h117.keep h80 eG8 (by decide)
    have h113 := h113.keep h80 eG8 (by decide)
    have hlen := (z_len eG8).trans hlen
    have hsl := (z_sl h80 eG8 rfl).trans hsl
    have hfr := hfr.wr h80 eG8 (by decide)
    have h80 := h80.kept eG8
    change ab_W _ _ _ (List.set G 80 (ab_ob 12 (mof 0 m_taped m_length m_out m_wide m_gathered m_sets m_ranges m_nodes m_at m_flags m_fault m_place m_numbered m_depth m_value m_isNot m_least0 m_most0 m_slot m_work m_got m_rowMany m_charAt m_charWide m_trail m_isMatch m_matchGroups m_allFrom m_allBefore m_founds m_pieces m_writtenMany m_templateWide m_tooMuch))) 17 [some (vR 80), some (vz s)] [] _
    rw [← eG8]
    refine ab_aload_n d_MO_all_17 rfl ?_
    refine ab_getf (fs := mof 0 m_taped m_length m_out m_wide m_gathered m_sets m_ranges m_nodes m_at m_flags m_fault m_place m_numbered m_depth m_value m_isNot m_least0 m_most0 m_slot m_work m_got m_rowMany m_charAt m_charWide m_trail m_isMatch m_matchGroups m_allFrom m_allBefore m_founds m_pieces m_writtenMany m_templateWide m_tooMuch) f_MO_220 d_MO_all_18 h80.2.2 rfl ?_
    refine zz_if_le (tgt := 26) d_MO_all_21 (by decide) (by decide) (fun c9 => ?_) (fun c9 => absurd c9 (by decide))
    obtain ⟨hp1_, hp2_, hp3_, hp4_, hp5_⟩ := jpg s (by omega) (by omega) (hq4 (by omega)).2.2
    refine ab_aload_n d_MO_all_26 rfl ?_
    refine zz_iconst d_MO_all_27 ?_
    refine ab_putf (fs := mof 0 m_taped m_length m_out m_wide m_gathered m_sets m_ranges m_nodes m_at m_flags m_fault m_place m_numbered m_depth m_value m_isNot m_least0 m_most0 m_slot m_work m_got m_rowMany m_charAt m_charWide m_trail m_isMatch m_matchGroups m_allFrom m_allBefore m_founds m_pieces m_writtenMany m_templateWide m_tooMuch) f_MO_579 (Or.inl rfl) d_MO_all_28 h80.2.2 (Nat.le_of_ble_eq_true rfl) (fun _ => ⟨rfl, rfl⟩) (h80.2.1 (by decide)) ?_
    obtain ⟨G10, eG10⟩ : ∃ z : ab_G, z = List.set G8 80 (ab_ob 12 (mof 0 m_taped m_length m_out m_wide m_gathered m_sets m_ranges m_nodes m_at m_flags m_fault m_place m_numbered m_depth m_value m_isNot m_least0 m_most0 m_slot m_work m_got m_rowMany m_charAt m_charWide m_trail m_isMatch m_matchGroups m_allFrom m_allBefore 0 m_pieces m_writtenMany m_templateWide m_tooMuch)) := ⟨_, rfl⟩
    have h145 := h145.keep h80 eG10 (by decide)
    have h134 := h134.keep h80 eG10 (by decide)
    have h135 := h135.keep h80 eG10 (by decide)
    have h136 := h136.keep h80 eG10 (by decide)
    have h137 := h137.keep h80 eG10 (by decide)
    have h144 := h144.keep h80 eG10 (by decide)
    have h138 := h138.keep h80 eG10 (by decide)
    have h142 := h142.keep h80 eG10 (by decide)
    have h143 := h143.keep h80 eG10 (by decide)
    have h140 := h140.keep h80 eG10 (by decide)
    have h141 := h141.keep h80 eG10 (by decide)
    have h112 := h112.keep h80 eG10 (by decide)
    have h114 := h114.keep h80 eG10 (by decide)
    have h116 := h116.keep h80 eG10 (by decide)
    have h118 := h118.keep h80 eG10 (by decide)
    have h119 := h119.keep h80 eG10 (by decide)
    have h120 := h120.keep h80 eG10 (by decide)
    have h121 := h121.keep h80 eG10 (by decide)
    have h122 := h122.keep h80 eG10 (by decide)
    have h123 := h123.keep h80 eG10 (by decide)
    have h124 := h124.keep h80 eG10 (by decide)
    have h85 := h85.keep h80 eG10 (by decide)
    have h117 := h117.keep h80 eG10 (by decide)
    have h113 := h113.keep h80 eG10 (by decide)
    have hlen := (z_len eG10).trans hlen
    have hsl := (z_sl h80 eG10 rfl).trans hsl
    have hfr := hfr.wr h80 eG10 (by decide)
    have h80 := h80.kept eG10
    change ab_W _ _ _ (List.set G8 80 (ab_ob 12 (mof 0 m_taped m_length m_out m_wide m_gathered m_sets m_ranges m_nodes m_at m_flags m_fault m_place m_numbered m_depth m_value m_isNot m_least0 m_most0 m_slot m_work m_got m_rowMany m_charAt m_charWide m_trail m_isMatch m_matchGroups m_allFrom m_allBefore 0 m_pieces m_writtenMany m_templateWide m_tooMuch))) 31 [some (vR 80), some (vz s)] [] _
    rw [← eG10]
    refine ab_aload_n d_MO_all_31 rfl ?_
    refine ab_iload_n d_MO_all_32 rfl ?_
    refine ab_callV (d' := d - 1) (as := [vz s]) (st := []) (r := _) (z_MO_beginAll (o := o) (m_thrown := 0) (m_taped := m_taped) (m_length := m_length) (m_out := m_out) (m_wide := m_wide) (m_gathered := m_gathered) (m_sets := m_sets) (m_ranges := m_ranges) (m_nodes := m_nodes) (m_at := m_at) (m_flags := m_flags) (m_fault := m_fault) (m_place := m_place) (m_numbered := m_numbered) (m_depth := m_depth) (m_value := m_value) (m_isNot := m_isNot) (m_least0 := m_least0) (m_most0 := m_most0) (m_slot := m_slot) (m_work := m_work) (m_got := m_got) (m_rowMany := m_rowMany) (m_charAt := m_charAt) (m_charWide := m_charWide) (m_trail := m_trail) (m_isMatch := m_isMatch) (m_matchGroups := m_matchGroups) (m_allFrom := m_allFrom) (m_allBefore := m_allBefore) (m_founds := 0) (m_pieces := m_pieces) (m_writtenMany := m_writtenMany) (m_templateWide := m_templateWide) (m_tooMuch := m_tooMuch) (A_step := A_step) (A_next := A_next) (A_more := A_more) (A_classAt := A_classAt) (A_classMany := A_classMany) (A_classLow := A_classLow) (A_classHigh := A_classHigh) (A_subject := A_subject) (A_stepMany := A_stepMany) (A_entry := A_entry) (CN := CN) (ZN := ZN) (s := s) h80 h134 h137 h118 h119 h120 h121 h122 h123 h124 h85 h117 h113 (by omega) (by omega) (by omega) hp5_ jst jcl jch jsb jn (by omega)) (fun oc G2 h => by rcases h with ⟨_, _, _, _, _, h, _⟩ <;> exact ⟨_, h⟩) (by omega) m_MO_beginAll ml_MO_582 im_MO_beginAll se_MO_beginAll c_MO h80.2.2 (Nat.le_of_ble_eq_true rfl) d_MO_all_33 rfl ?_
    intro v G11 hq
    rcases hq with ⟨w212, c213, cw214, CN215, ZN216, hv, hfk, hlk, hsk, hN80, hN134, hN137, hq17, hq18⟩
    cases hv
    have h145 := hfk.get h145 (by decide)
    have h135 := hfk.get h135 (by decide)
    have h136 := hfk.get h136 (by decide)
    have h144 := hfk.get h144 (by decide)
    have h138 := hfk.get h138 (by decide)
    have h142 := hfk.get h142 (by decide)
    have h143 := hfk.get h143 (by decide)
    have h140 := hfk.get h140 (by decide)
    have h141 := hfk.get h141 (by decide)
    have h112 := hfk.get h112 (by decide)
    have h114 := hfk.get h114 (by decide)
    have h116 := hfk.get h116 (by decide)
    have h118 := hfk.get h118 (by decide)
    have h119 := hfk.get h119 (by decide)
    have h120 := hfk.get h120 (by decide)
    have h121 := hfk.get h121 (by decide)
    have h122 := hfk.get h122 (by decide)
    have h123 := hfk.get h123 (by decide)
    have h124 := hfk.get h124 (by decide)
    have h85 := hfk.get h85 (by decide)
    have h117 := hfk.get h117 (by decide)
    have h113 := hfk.get h113 (by decide)
    have hfr := hfr.tr hfk (by decide)
    have hlen := hlk.trans hlen
    have hsl := hsk.trans hsl
    have h80 := hN80
    have h134 := hN134
    have h137 := hN137
    change ab_W _ _ _ G11 36 [some (vR 80), some (vz s)] [] _
    refine y_MO_all_36 (m_thrown := 0) (m_taped := m_taped) (m_length := m_length) (m_out := m_out) (m_gathered := m_gathered) (m_sets := m_sets) (m_ranges := m_ranges) (m_nodes := m_nodes) (m_at := m_at) (m_flags := m_flags) (m_fault := m_fault) (m_place := m_place) (m_numbered := m_numbered) (m_depth := m_depth) (m_value := m_value) (m_isNot := m_isNot) (m_least0 := m_least0) (m_most0 := m_most0) (m_slot := m_slot) (m_work := m_work) (m_got := m_got) (m_rowMany := m_rowMany) (m_isMatch := m_isMatch) (m_matchGroups := m_matchGroups) (m_pieces := m_pieces) (m_writtenMany := m_writtenMany) (m_templateWide := m_templateWide) (m_tooMuch := m_tooMuch) (A_flagsOf := A_flagsOf) (A_step := A_step) (A_next := A_next) (A_more := A_more) (A_classAt := A_classAt) (A_classMany := A_classMany) (A_classLow := A_classLow) (A_classHigh := A_classHigh) (A_subject := A_subject) (A_stepMany := A_stepMany) (A_entry := A_entry) (CN := CN215) (s := s) (G0 := G11) (m_wide := w212) (m_charAt := c213) (m_charWide := cw214) (m_trail := m_trail) (m_allFrom := 0) (m_allBefore := (-1)) (JU := JU) (CO := CO) (ZN := ZN216) (ZS := ZS) (SP := SP) (PL := PL) (PT := PT) (TS := TS) (TO := TO) (m_founds := 0) (FA := FA) (by omega) (by omega) (by omega) hp5_ jst jcl jch jsb (by omega) (by omega) hq18 (by omega) (Int.toNat (m_length + 1 - (-1)) + 1) h80 h134 h135 h136 h137 h144 h138 h142 h143 h140 h141 h116 h118 h119 h120 h121 h122 h123 h124 h85 h117 h113 h145 (by omega) (by omega) hq17 jse jsp jpt jts jto fx.rf rfl rfl (by omega) (fun G19 w220 c221 cw222 t223 JU224 CO225 ZN226 ZS227 SP228 PL229 PT230 TS231 TO232 af233 ab234 FA235 n236 hN80 hN135 hN136 hN137 hN144 hN138 hN142 hN143 hN140 hN141 hN145 hq37 hq38 hq39 hq40 hq41 hq42 hq43 hfk hlk hsk => ?_)
    · have h134 := hfk.get h134 (by decide)
      have h112 := hfk.get h112 (by decide)
      have h114 := hfk.get h114 (by decide)
      have h116 := hfk.get h116 (by decide)
      have h118 := hfk.get h118 (by decide)
      have h119 := hfk.get h119 (by decide)
      have h120 := hfk.get h120 (by decide)
      have h121 := hfk.get h121 (by decide)
      have h122 := hfk.get h122 (by decide)
      have h123 := hfk.get h123 (by decide)
      have h124 := hfk.get h124 (by decide)
      have h85 := hfk.get h85 (by decide)
      have h117 := hfk.get h117 (by decide)
      have h113 := hfk.get h113 (by decide)
      have hfr := hfr.tr hfk (by decide)
      have hlen := hlk.trans hlen
      have hsl := hsk.trans hsl
      have h80 := hN80
      have h135 := hN135
      have h136 := hN136
      have h137 := hN137
      have h144 := hN144
      have h138 := hN138
      have h142 := hN142
      have h143 := hN143
      have h140 := hN140
      have h141 := hN141
      have h145 := hN145
      change ab_W _ _ _ G19 93 [some (vR 80), none] [] _
      refine ab_aload_n d_MO_all_93 rfl ?_
      refine ab_getf (fs := mof 0 m_taped m_length m_out w220 m_gathered m_sets m_ranges m_nodes m_at m_flags m_fault m_place m_numbered m_depth m_value m_isNot m_least0 m_most0 m_slot m_work m_got m_rowMany c221 cw222 t223 m_isMatch m_matchGroups af233 ab234 n236 m_pieces m_writtenMany m_templateWide m_tooMuch) f_MO_579 d_MO_all_94 h80.2.2 rfl ?_
      refine zz_iret rfl d_MO_all_97 ?_
      rw [hQ]; exact ⟨_, _, _, _, _, _, _, _, _, _, _, _, _, _, _, _, _, _, _, _, rfl, hfr, hlen, hsl, h80, h135, h136, h137, h144, h138, h142, h143, h140, h141, h134, h145, (by first | exact hq37 | exact rgs_w hq37 (by omega)), (by first | exact hq38 | exact rgs_w hq38 (by omega)), (by first | exact hq39 | exact rgs_w hq39 (by omega)), (by first | exact hq40 | exact rgs_w hq40 (by omega)), (by first | exact hq41 | exact rgs_w hq41 (by omega)), (by first | exact hq42 | exact rgs_w hq42 (by omega)), (by omega)⟩
set_option maxRecDepth 100000 in
set_option maxHeartbeats 4000000 in
theorem z_MO_addPiece {X : ab_X} {d : Nat} {o : Nat → Nat} {G : ab_G} {m_thrown : Int} {m_taped : Int} {m_length : Int} {m_out : Int} {m_wide : Int} {m_gathered : Int} {m_sets : Int} {m_ranges : Int} {m_nodes : Int} {m_at : Int} {m_flags : Int} {m_fault : Int} {m_place : Int} {m_numbered : Int} {m_depth : Int} {m_value : Int} {m_isNot : Int} {m_least0 : Int} {m_most0 : Int} {m_slot : Int} {m_work : Int} {m_got : Int} {m_rowMany : Int} {m_charAt : Int} {m_charWide : Int} {m_trail : Int} {m_isMatch : Int} {m_matchGroups : Int} {m_allFrom : Int} {m_allBefore : Int} {m_founds : Int} {m_pieces : Int} {m_writtenMany : Int} {m_templateWide : Int} {m_tooMuch : Int} {FA : Int → Int} {x : Int} {y : Int} (h80 : cc o G 80 280 (ab_ob 12 (mof m_thrown m_taped m_length m_out m_wide m_gathered m_sets m_ranges m_nodes m_at m_flags m_fault m_place m_numbered m_depth m_value m_isNot m_least0 m_most0 m_slot m_work m_got m_rowMany m_charAt m_charWide m_trail m_isMatch m_matchGroups m_allFrom m_allBefore m_founds m_pieces m_writtenMany m_templateWide m_tooMuch))) (h146 : cc o G 146 346 (za 4100 FA)) (n18 : ab_n0 = 18) (cp : 0 ≤ m_pieces ∧ m_pieces ≤ 2049) : ab_F X d y_MO_addPiece (.code y_MO_addPiece b_MO_addPiece 3 none) [vR 80, vz x, vz y] G (fun oc G2 => ∃ FA2 : Int → Int, oc = .returned none ∧ fx o o [280, 346] G G2 ∧ G2.length = G.length ∧ ab_slots G2 = ab_slots G ∧ cc o G2 80 280 (ab_ob 12 (mof m_thrown m_taped m_length m_out m_wide m_gathered m_sets m_ranges m_nodes m_at m_flags m_fault m_place m_numbered m_depth m_value m_isNot m_least0 m_most0 m_slot m_work m_got m_rowMany m_charAt m_charWide m_trail m_isMatch m_matchGroups m_allFrom m_allBefore m_founds (m_pieces + 1) m_writtenMany m_templateWide m_tooMuch)) ∧ cc o G2 146 346 (za 4100 FA2)) := by
  refine ab_F_of (by decide +kernel) (Nat.le_of_ble_eq_true rfl) ?_
  obtain ⟨Q, hQ⟩ : ∃ z : Outcome → ab_G → Prop, z = (fun oc G2 => ∃ FA2 : Int → Int, oc = .returned none ∧ fx o o [280, 346] G G2 ∧ G2.length = G.length ∧ ab_slots G2 = ab_slots G ∧ cc o G2 80 280 (ab_ob 12 (mof m_thrown m_taped m_length m_out m_wide m_gathered m_sets m_ranges m_nodes m_at m_flags m_fault m_place m_numbered m_depth m_value m_isNot m_least0 m_most0 m_slot m_work m_got m_rowMany m_charAt m_charWide m_trail m_isMatch m_matchGroups m_allFrom m_allBefore m_founds (m_pieces + 1) m_writtenMany m_templateWide m_tooMuch)) ∧ cc o G2 146 346 (za 4100 FA2)) := ⟨_, rfl⟩
  rw [← hQ]
  change ab_W X (ab_pl y_MO_addPiece b_MO_addPiece 3 none) d G 0 [some (vR 80), some (vz x), some (vz y)] [] Q
  have hfr : fx o o [280, 346] G G := fx.rf
  have hlen : G.length = G.length := rfl
  have hsl : ab_slots G = ab_slots G := rfl
  refine ab_aload_n d_MO_addPiece_0 rfl ?_
  refine ab_getf (fs := mof m_thrown m_taped m_length m_out m_wide m_gathered m_sets m_ranges m_nodes m_at m_flags m_fault m_place m_numbered m_depth m_value m_isNot m_least0 m_most0 m_slot m_work m_got m_rowMany m_charAt m_charWide m_trail m_isMatch m_matchGroups m_allFrom m_allBefore m_founds m_pieces m_writtenMany m_templateWide m_tooMuch) f_MO_214 d_MO_addPiece_1 h80.2.2 rfl ?_
  refine zz_iconst d_MO_addPiece_4 ?_
  refine ab_aload_n d_MO_addPiece_5 rfl ?_
  refine ab_getf (fs := mof m_thrown m_taped m_length m_out m_wide m_gathered m_sets m_ranges m_nodes m_at m_flags m_fault m_place m_numbered m_depth m_value m_isNot m_least0 m_most0 m_slot m_work m_got m_rowMany m_charAt m_charWide m_trail m_isMatch m_matchGroups m_allFrom m_allBefore m_founds m_pieces m_writtenMany m_templateWide m_tooMuch) f_MO_588 d_MO_addPiece_6 h80.2.2 rfl ?_
  refine zz_imul d_MO_addPiece_9 ?_
  refine ab_iload_n d_MO_addPiece_10 rfl ?_
  refine zz_iast d_MO_addPiece_11 h146 (by omega) (h146.2.1 (by decide)) ?_
  obtain ⟨G1, eG1⟩ : ∃ z : ab_G, z = List.set G 146 (za 4100 (zu FA (2 * m_pieces) x)) := ⟨_, rfl⟩
  have h80 := h80.keep h146 eG1 (by decide)
  have hlen := (z_len eG1).trans hlen
  have hsl := (z_sl h146 eG1 rfl).trans hsl
  have hfr := hfr.wr h146 eG1 (by decide)
  have h146 := h146.kept eG1
  change ab_W _ _ _ (List.set G 146 (za 4100 (zu FA (2 * m_pieces) x))) 12 [some (vR 80), some (vz x), some (vz y)] [] _
  rw [← eG1]
  refine ab_aload_n d_MO_addPiece_12 rfl ?_
  refine ab_getf (fs := mof m_thrown m_taped m_length m_out m_wide m_gathered m_sets m_ranges m_nodes m_at m_flags m_fault m_place m_numbered m_depth m_value m_isNot m_least0 m_most0 m_slot m_work m_got m_rowMany m_charAt m_charWide m_trail m_isMatch m_matchGroups m_allFrom m_allBefore m_founds m_pieces m_writtenMany m_templateWide m_tooMuch) f_MO_214 d_MO_addPiece_13 h80.2.2 rfl ?_
  refine zz_iconst d_MO_addPiece_16 ?_
  refine ab_aload_n d_MO_addPiece_17 rfl ?_
  refine ab_getf (fs := mof m_thrown m_taped m_length m_out m_wide m_gathered m_sets m_ranges m_nodes m_at m_flags m_fault m_place m_numbered m_depth m_value m_isNot m_least0 m_most0 m_slot m_work m_got m_rowMany m_charAt m_charWide m_trail m_isMatch m_matchGroups m_allFrom m_allBefore m_founds m_pieces m_writtenMany m_templateWide m_tooMuch) f_MO_588 d_MO_addPiece_18 h80.2.2 rfl ?_
  refine zz_imul d_MO_addPiece_21 ?_
  refine zz_iconst d_MO_addPiece_22 ?_
  refine zz_iadd d_MO_addPiece_23 ?_
  refine ab_iload_n d_MO_addPiece_24 rfl ?_
  refine zz_iast d_MO_addPiece_25 h146 (by omega) (h146.2.1 (by decide)) ?_
  obtain ⟨G2, eG2⟩ : ∃ z : ab_G, z = List.set G1 146 (za 4100 (zu (zu FA (2 * m_pieces) x) ((2 * m_pieces) + 1) y)) := ⟨_, rfl⟩
  have h80 := h80.keep h146 eG2 (by decide)
  have hlen := (z_len eG2).trans hlen
  have hsl := (z_sl h146 eG2 rfl).trans hsl
  have hfr := hfr.wr h146 eG2 (by decide)
  have h146 := h146.kept eG2
  change ab_W _ _ _ (List.set G1 146 (za 4100 (zu (zu FA (2 * m_pieces) x) ((2 * m_pieces) + 1) y))) 26 [some (vR 80), some (vz x), some (vz y)] [] _
  rw [← eG2]
  refine ab_aload_n d_MO_addPiece_26 rfl ?_
  refine ab_dup d_MO_addPiece_27 rfl ?_
  refine ab_getf (fs := mof m_thrown m_taped m_length m_out m_wide m_gathered m_sets m_ranges m_nodes m_at m_flags m_fault m_place m_numbered m_depth m_value m_isNot m_least0 m_most0 m_slot m_work m_got m_rowMany m_charAt m_charWide m_trail m_isMatch m_matchGroups m_allFrom m_allBefore m_founds m_pieces m_writtenMany m_templateWide m_tooMuch) f_MO_588 d_MO_addPiece_28 h80.2.2 rfl ?_
  refine zz_iconst d_MO_addPiece_31 ?_
  refine zz_iadd d_MO_addPiece_32 ?_
  refine ab_putf (fs := mof m_thrown m_taped m_length m_out m_wide m_gathered m_sets m_ranges m_nodes m_at m_flags m_fault m_place m_numbered m_depth m_value m_isNot m_least0 m_most0 m_slot m_work m_got m_rowMany m_charAt m_charWide m_trail m_isMatch m_matchGroups m_allFrom m_allBefore m_founds m_pieces m_writtenMany m_templateWide m_tooMuch) f_MO_588 (Or.inl rfl) d_MO_addPiece_33 h80.2.2 (Nat.le_of_ble_eq_true rfl) (fun _ => ⟨rfl, rfl⟩) (h80.2.1 (by decide)) ?_
  obtain ⟨G3, eG3⟩ : ∃ z : ab_G, z = List.set G2 80 (ab_ob 12 (mof m_thrown m_taped m_length m_out m_wide m_gathered m_sets m_ranges m_nodes m_at m_flags m_fault m_place m_numbered m_depth m_value m_isNot m_least0 m_most0 m_slot m_work m_got m_rowMany m_charAt m_charWide m_trail m_isMatch m_matchGroups m_allFrom m_allBefore m_founds (m_pieces + 1) m_writtenMany m_templateWide m_tooMuch)) := ⟨_, rfl⟩
  have h146 := h146.keep h80 eG3 (by decide)
  have hlen := (z_len eG3).trans hlen
  have hsl := (z_sl h80 eG3 rfl).trans hsl
  have hfr := hfr.wr h80 eG3 (by decide)
  have h80 := h80.kept eG3
  change ab_W _ _ _ (List.set G2 80 (ab_ob 12 (mof m_thrown m_taped m_length m_out m_wide m_gathered m_sets m_ranges m_nodes m_at m_flags m_fault m_place m_numbered m_depth m_value m_isNot m_least0 m_most0 m_slot m_work m_got m_rowMany m_charAt m_charWide m_trail m_isMatch m_matchGroups m_allFrom m_allBefore m_founds (m_pieces + 1) m_writtenMany m_templateWide m_tooMuch))) 36 [some (vR 80), some (vz x), some (vz y)] [] _
  rw [← eG3]
  refine ab_vret rfl d_MO_addPiece_36 ?_
  rw [hQ]; exact ⟨_, rfl, hfr, hlen, hsl, h80, h146⟩
set_option maxRecDepth 100000 in
set_option maxHeartbeats 4000000 in
theorem y_MO_split1_38 {X : ab_X} {d : Nat} {Q : Outcome → ab_G → Prop} {o : Nat → Nat} {G0 : ab_G} {m_thrown : Int} {m_taped : Int} {m_length : Int} {m_out : Int} {m_gathered : Int} {m_sets : Int} {m_ranges : Int} {m_nodes : Int} {m_at : Int} {m_flags : Int} {m_fault : Int} {m_place : Int} {m_numbered : Int} {m_depth : Int} {m_value : Int} {m_isNot : Int} {m_least0 : Int} {m_most0 : Int} {m_slot : Int} {m_work : Int} {m_got : Int} {m_rowMany : Int} {m_isMatch : Int} {m_matchGroups : Int} {m_founds : Int} {m_writtenMany : Int} {m_templateWide : Int} {m_tooMuch : Int} {A_flagsOf : Int → Int} {A_step : Int → Int} {A_next : Int → Int} {A_more : Int → Int} {A_classAt : Int → Int} {A_classMany : Int → Int} {A_classLow : Int → Int} {A_classHigh : Int → Int} {A_subject : Int → Int} {A_stepMany : Int → Int} {A_entry : Int → Int} {CN : Int → Int} {s : Int} (n18 : ab_n0 = 18) (cle : 0 ≤ m_length ∧ m_length ≤ 2000) (cs : 0 ≤ s ∧ s ≤ 5 ∧ 0 ≤ (A_stepMany s) ∧ (A_stepMany s) ≤ 12500) (jsg : sgood A_step A_next A_more A_classAt A_classMany (12500 * s) (A_stepMany s)) (jst : rgs A_step 75000 0 6) (jcl : rgs A_classLow 3600 0 1114111) (jch : rgs A_classHigh 3600 0 1114111) (jsb : rgs A_subject 2000 0 255) (cen : 0 ≤ (A_entry s) ∧ (A_entry s) < (A_stepMany s)) (cfl : 0 ≤ A_flagsOf s ∧ A_flagsOf s ≤ 31) (hnr : nrows A_step A_next A_more A_classAt A_classMany A_classLow A_classHigh A_subject CN m_length (12500 * s) (A_stepMany s) m_length 0 (0 - 1)) (hd : 10 ≤ d) : ∀ (mz : Nat) {G : ab_G} {m_wide : Int} {m_charAt : Int} {m_charWide : Int} {m_trail : Int} {m_allFrom : Int} {m_allBefore : Int} {JU : Int → Int} {CO : Int → Int} {ZN : Int → Int} {ZS : Int → Int} {SP : Int → Int} {PL : Int → Int} {PT : Int → Int} {TS : Int → Int} {TO : Int → Int} {m_pieces : Int} {FA : Int → Int} {la : Int}, (cc o G 80 280 (ab_ob 12 (mof m_thrown m_taped m_length m_out m_wide m_gathered m_sets m_ranges m_nodes m_at m_flags m_fault m_place m_numbered m_depth m_value m_isNot m_least0 m_most0 m_slot m_work m_got m_rowMany m_charAt m_charWide m_trail m_isMatch m_matchGroups m_allFrom m_allBefore m_founds m_pieces m_writtenMany m_templateWide m_tooMuch))) → (cc o G 134 334 (zl 392196 CN)) → (cc o G 135 335 (zl 392196 JU)) → (cc o G 136 336 (zl 392196 CO)) → (cc o G 137 337 (zb 12500 ZN)) → (cc o G 144 344 (zb 12500 ZS)) → (cc o G 138 338 (za 20 SP)) → (cc o G 142 342 (za 25000 PL)) → (cc o G 143 343 (za 25000 PT)) → (cc o G 140 340 (za 12500 TS)) → (cc o G 141 341 (za 12500 TO)) → (cc o G 116 316 (za 6 A_flagsOf)) → (cc o G 118 318 (za 75000 A_step)) → (cc o G 119 319 (za 75000 A_next)) → (cc o G 120 320 (za 75000 A_more)) → (cc o G 121 321 (za 75000 A_classAt)) → (cc o G 122 322 (za 75000 A_classMany)) → (cc o G 123 323 (za 3600 A_classLow)) → (cc o G 124 324 (za 3600 A_classHigh)) → (cc o G 85 285 (za 2000 A_subject)) → (cc o G 117 317 (za 6 A_stepMany)) → (cc o G 113 313 (za 6 A_entry)) → (cc o G 146 346 (za 4100 FA)) → (-1 ≤ m_allBefore ∧ m_allBefore ≤ m_allFrom ∧ 0 ≤ m_allFrom ∧ m_allFrom ≤ m_length + 1 ∧ m_allBefore ≤ m_length) → (0 ≤ m_pieces ∧ m_pieces ≤ m_allBefore + 1) → (0 ≤ la ∧ la ≤ m_length) → (rgs ZN 12500 0 1) → (rgs ZS 12500 0 1) → (rgs SP 20 (-1) 2000) → (rgs PT 25000 0 12500) → (rgs TS 12500 0 19) → (rgs TO 12500 (-1) 2000) → (fx o o [280, 335, 336, 337, 344, 338, 342, 343, 340, 341, 346] G0 G) → (G.length = G0.length) → (ab_slots G = ab_slots G0) → (Int.toNat (m_length + 1 - m_allBefore) < mz) → (∀ (G2 : ab_G) (w2 : Int) (c2 : Int) (cw2 : Int) (t2 : Int) (JU2 : Int → Int) (CO2 : Int → Int) (ZN2 : Int → Int) (ZS2 : Int → Int) (SP2 : Int → Int) (PL2 : Int → Int) (PT2 : Int → Int) (TS2 : Int → Int) (TO2 : Int → Int) (af2 : Int) (ab2 : Int) (FA2 : Int → Int) (n2 : Int) (la2 : Int), (cc o G2 80 280 (ab_ob 12 (mof m_thrown m_taped m_length m_out w2 m_gathered m_sets m_ranges m_nodes m_at m_flags m_fault m_place m_numbered m_depth m_value m_isNot m_least0 m_most0 m_slot m_work m_got m_rowMany c2 cw2 t2 m_isMatch m_matchGroups af2 ab2 m_founds n2 m_writtenMany m_templateWide m_tooMuch))) → (cc o G2 135 335 (zl 392196 JU2)) → (cc o G2 136 336 (zl 392196 CO2)) → (cc o G2 137 337 (zb 12500 ZN2)) → (cc o G2 144 344 (zb 12500 ZS2)) → (cc o G2 138 338 (za 20 SP2)) → (cc o G2 142 342 (za 25000 PL2)) → (cc o G2 143 343 (za 25000 PT2)) → (cc o G2 140 340 (za 12500 TS2)) → (cc o G2 141 341 (za 12500 TO2)) → (cc o G2 146 346 (za 4100 FA2)) → (rgs ZN2 12500 0 1) → (rgs ZS2 12500 0 1) → (rgs SP2 20 (-1) 2000) → (rgs PT2 25000 0 12500) → (rgs TS2 12500 0 19) → (rgs TO2 12500 (-1) 2000) → (0 ≤ n2 ∧ n2 ≤ m_length + 1) → (0 ≤ la2 ∧ la2 ≤ m_length) → (fx o o [280, 335, 336, 337, 344, 338, 342, 343, 340, 341, 346] G0 G2) → (G2.length = G0.length) → (ab_slots G2 = ab_slots G0) → ab_W X (ab_pl y_MO_split1 b_MO_split1 3 (some (.int))) d G2 107 [some (vR 80), none, some (vz la2)] [] Q) → ab_W X (ab_pl y_MO_split1 b_MO_split1 3 (some (.int))) d G 38 [some (vR 80), some (vz s), some (vz la)] [] Q := by
  intro mz
  induction mz with
  | zero => intro G m_wide m_charAt m_charWide m_trail m_allFrom m_allBefore JU CO ZN ZS SP PL PT TS TO m_pieces FA la h80 h134 h135 h136 h137 h144 h138 h142 h143 h140 h141 h116 h118 h119 h120 h121 h122 h123 h124 h85 h117 h113 h146 cab cnt cla jn jse jsp jpt jts jto hfr hlen hsl hm hk0; exact absurd hm (Nat.not_lt_zero _)
  | succ mz ih =>
    intro G m_wide m_charAt m_charWide m_trail m_allFrom m_allBefore JU CO ZN ZS SP PL PT TS TO m_pieces FA la h80 h134 h135 h136 h137 h144 h138 h142 h143 h140 h141 h116 h118 h119 h120 h121 h122 h123 h124 h85 h117 h113 h146 cab cnt cla jn jse jsp jpt jts jto hfr hlen hsl hm hk0
    refine ab_aload_n d_MO_split1_38 rfl ?_
    refine ab_iload_n d_MO_split1_39 rfl ?_
    refine ab_callV (d' := d - 1) (as := [vz s]) (st := []) (r := _) (z_MO_nextMatch (o := o) (m_thrown := m_thrown) (m_taped := m_taped) (m_length := m_length) (m_out := m_out) (m_wide := m_wide) (m_gathered := m_gathered) (m_sets := m_sets) (m_ranges := m_ranges) (m_nodes := m_nodes) (m_at := m_at) (m_flags := m_flags) (m_fault := m_fault) (m_place := m_place) (m_numbered := m_numbered) (m_depth := m_depth) (m_value := m_value) (m_isNot := m_isNot) (m_least0 := m_least0) (m_most0 := m_most0) (m_slot := m_slot) (m_work := m_work) (m_got := m_got) (m_rowMany := m_rowMany) (m_charAt := m_charAt) (m_charWide := m_charWide) (m_trail := m_trail) (m_isMatch := m_isMatch) (m_matchGroups := m_matchGroups) (m_allFrom := m_allFrom) (m_allBefore := m_allBefore) (m_founds := m_founds) (m_pieces := m_pieces) (m_writtenMany := m_writtenMany) (m_templateWide := m_templateWide) (m_tooMuch := m_tooMuch) (A_flagsOf := A_flagsOf) (A_step := A_step) (A_next := A_next) (A_more := A_more) (A_classAt := A_classAt) (A_classMany := A_classMany) (A_classLow := A_classLow) (A_classHigh := A_classHigh) (A_subject := A_subject) (A_stepMany := A_stepMany) (A_entry := A_entry) (CN := CN) (JU := JU) (CO := CO) (ZN := ZN) (ZS := ZS) (SP := SP) (PL := PL) (PT := PT) (TS := TS) (TO := TO) (s := s) h80 h134 h135 h136 h137 h144 h138 h142 h143 h140 h141 h116 h118 h119 h120 h121 h122 h123 h124 h85 h117 h113 (by omega) (by omega) (by omega) jsg jst jcl jch jsb (by omega) (by omega) hnr (by omega) jn jse jsp jpt jts jto (by omega)) (fun oc G2 h => by rcases h with ⟨_, _, _, _, _, _, _, _, _, _, _, _, _, _, _, h, _⟩ | ⟨_, _, _, _, _, _, _, _, _, _, _, _, _, _, _, h, _⟩ <;> exact ⟨_, h⟩) (by omega) m_MO_nextMatch ml_MO_585 im_MO_nextMatch se_MO_nextMatch c_MO h80.2.2 (Nat.le_of_ble_eq_true rfl) d_MO_split1_40 rfl ?_
    intro v G1 hq
    rcases hq with ⟨w22, c23, cw24, t25, JU26, CO27, ZN28, ZS29, SP210, PL211, PT212, TS213, TO214, af215, ab216, hv, hfk, hlk, hsk, hN80, hN135, hN136, hN137, hN144, hN138, hN142, hN143, hN140, hN141, hq17, hq18, hq19, hq20, hq21, hq22, hq23, hq24⟩ | ⟨w225, c226, cw227, t228, JU229, CO230, ZN231, ZS232, SP233, PL234, PT235, TS236, TO237, af238, ab239, hv, hfk, hlk, hsk, hN80, hN135, hN136, hN137, hN144, hN138, hN142, hN143, hN140, hN141, hq40, hq41, hq42, hq43, hq44, hq45⟩
    · cases hv
      have h134 := hfk.get h134 (by decide)
      have h116 := hfk.get h116 (by decide)
      have h118 := hfk.get h118 (by decide)
      have h119 := hfk.get h119 (by decide)
      have h120 := hfk.get h120 (by decide)
      have h121 := hfk.get h121 (by decide)
      have h122 := hfk.get h122 (by decide)
      have h123 := hfk.get h123 (by decide)
      have h124 := hfk.get h124 (by decide)
      have h85 := hfk.get h85 (by decide)
      have h117 := hfk.get h117 (by decide)
      have h113 := hfk.get h113 (by decide)
      have h146 := hfk.get h146 (by decide)
      have hfr := hfr.tr hfk (by decide)
      have hlen := hlk.trans hlen
      have hsl := hsk.trans hsl
      have h80 := hN80
      have h135 := hN135
      have h136 := hN136
      have h137 := hN137
      have h144 := hN144
      have h138 := hN138
      have h142 := hN142
      have h143 := hN143
      have h140 := hN140
      have h141 := hN141
      change ab_W _ _ _ G1 43 [some (vR 80), some (vz s), some (vz la)] [vz 1] _
      refine zz_if_eq (tgt := 107) d_MO_split1_43 (by decide) (by decide) (fun c46 => absurd c46 (by decide)) (fun c46 => ?_)
      refine ab_aload_n d_MO_split1_46 rfl ?_
      refine ab_getf (fs := mof m_thrown m_taped m_length m_out w22 m_gathered m_sets m_ranges m_nodes m_at m_flags m_fault m_place m_numbered m_depth m_value m_isNot m_least0 m_most0 m_slot m_work m_got m_rowMany c23 cw24 t25 m_isMatch m_matchGroups af215 ab216 m_founds m_pieces m_writtenMany m_templateWide m_tooMuch) f_MO_190 d_MO_split1_47 h80.2.2 rfl ?_
      refine zz_iconst d_MO_split1_50 ?_
      refine zz_iald d_MO_split1_51 h138 (by omega) ?_
      refine ab_aload_n d_MO_split1_52 rfl ?_
      refine ab_getf (fs := mof m_thrown m_taped m_length m_out w22 m_gathered m_sets m_ranges m_nodes m_at m_flags m_fault m_place m_numbered m_depth m_value m_isNot m_least0 m_most0 m_slot m_work m_got m_rowMany c23 cw24 t25 m_isMatch m_matchGroups af215 ab216 m_founds m_pieces m_writtenMany m_templateWide m_tooMuch) f_MO_190 d_MO_split1_53 h80.2.2 rfl ?_
      refine zz_iconst d_MO_split1_56 ?_
      refine zz_iald d_MO_split1_57 h138 (by omega) ?_
      refine zz_icmp_ne (tgt := 86) d_MO_split1_58 (by decide) (by omega) (by omega) (fun c47 => ?_) (fun c47 => ?_)
      · refine ab_aload_n d_MO_split1_86 rfl ?_
        refine ab_iload_n d_MO_split1_87 rfl ?_
        refine ab_aload_n d_MO_split1_88 rfl ?_
        refine ab_getf (fs := mof m_thrown m_taped m_length m_out w22 m_gathered m_sets m_ranges m_nodes m_at m_flags m_fault m_place m_numbered m_depth m_value m_isNot m_least0 m_most0 m_slot m_work m_got m_rowMany c23 cw24 t25 m_isMatch m_matchGroups af215 ab216 m_founds m_pieces m_writtenMany m_templateWide m_tooMuch) f_MO_190 d_MO_split1_89 h80.2.2 rfl ?_
        refine zz_iconst d_MO_split1_92 ?_
        refine zz_iald d_MO_split1_93 h138 (by omega) ?_
        refine ab_callV (d' := d - 1) (as := [vz la, vz (SP210 0)]) (st := []) (r := _) (z_MO_addPiece (o := o) (m_thrown := m_thrown) (m_taped := m_taped) (m_length := m_length) (m_out := m_out) (m_wide := w22) (m_gathered := m_gathered) (m_sets := m_sets) (m_ranges := m_ranges) (m_nodes := m_nodes) (m_at := m_at) (m_flags := m_flags) (m_fault := m_fault) (m_place := m_place) (m_numbered := m_numbered) (m_depth := m_depth) (m_value := m_value) (m_isNot := m_isNot) (m_least0 := m_least0) (m_most0 := m_most0) (m_slot := m_slot) (m_work := m_work) (m_got := m_got) (m_rowMany := m_rowMany) (m_charAt := c23) (m_charWide := cw24) (m_trail := t25) (m_isMatch := m_isMatch) (m_matchGroups := m_matchGroups) (m_allFrom := af215) (m_allBefore := ab216) (m_founds := m_founds) (m_pieces := m_pieces) (m_writtenMany := m_writtenMany) (m_templateWide := m_templateWide) (m_tooMuch := m_tooMuch) (FA := FA) (x := la) (y := (SP210 0)) h80 h146 (by omega) (by omega)) (fun oc G2 h => by rcases h with ⟨_, h, _⟩ <;> exact ⟨_, h⟩) (by omega) m_MO_addPiece ml_MO_591 im_MO_addPiece se_MO_addPiece c_MO h80.2.2 (Nat.le_of_ble_eq_true rfl) d_MO_split1_94 rfl ?_
        intro v G48 hq
        rcases hq with ⟨FA249, hv, hfk, hlk, hsk, hN80, hN146⟩
        cases hv
        have h134 := hfk.get h134 (by decide)
        have h135 := hfk.get h135 (by decide)
        have h136 := hfk.get h136 (by decide)
        have h137 := hfk.get h137 (by decide)
        have h144 := hfk.get h144 (by decide)
        have h138 := hfk.get h138 (by decide)
        have h142 := hfk.get h142 (by decide)
        have h143 := hfk.get h143 (by decide)
        have h140 := hfk.get h140 (by decide)
        have h141 := hfk.get h141 (by decide)
        have h116 := hfk.get h116 (by decide)
        have h118 := hfk.get h118 (by decide)
        have h119 := hfk.get h119 (by decide)
        have h120 := hfk.get h120 (by decide)
        have h121 := hfk.get h121 (by decide)
        have h122 := hfk.get h122 (by decide)
        have h123 := hfk.get h123 (by decide)
        have h124 := hfk.get h124 (by decide)
        have h85 := hfk.get h85 (by decide)
        have h117 := hfk.get h117 (by decide)
        have h113 := hfk.get h113 (by decide)
        have hfr := hfr.tr hfk (by decide)
        have hlen := hlk.trans hlen
        have hsl := hsk.trans hsl
        have h80 := hN80
        have h146 := hN146
        change ab_W _ _ _ G48 97 [some (vR 80), some (vz s), some (vz la)] [] _
        refine ab_aload_n d_MO_split1_97 rfl ?_
        refine ab_getf (fs := mof m_thrown m_taped m_length m_out w22 m_gathered m_sets m_ranges m_nodes m_at m_flags m_fault m_place m_numbered m_depth m_value m_isNot m_least0 m_most0 m_slot m_work m_got m_rowMany c23 cw24 t25 m_isMatch m_matchGroups af215 ab216 m_founds (m_pieces + 1) m_writtenMany m_templateWide m_tooMuch) f_MO_190 d_MO_split1_98 h80.2.2 rfl ?_
        refine zz_iconst d_MO_split1_101 ?_
        refine zz_iald d_MO_split1_102 h138 (by omega) ?_
        refine ab_istore_n d_MO_split1_103 (Nat.le_of_ble_eq_true rfl) (Nat.le_of_ble_eq_true rfl) rfl ?_
        change ab_W _ _ _ G48 104 [some (vR 80), some (vz s), some (vz (SP210 1))] [] _
        refine ab_goto (tgt := 38) d_MO_split1_104 (by decide) ?_
        exact ih (m_wide := w22) (m_charAt := c23) (m_charWide := cw24) (m_trail := t25) (m_allFrom := af215) (m_allBefore := ab216) (JU := JU26) (CO := CO27) (ZN := ZN28) (ZS := ZS29) (SP := SP210) (PL := PL211) (PT := PT212) (TS := TS213) (TO := TO214) (m_pieces := (m_pieces + 1)) (FA := FA249) (la := (SP210 1)) h80 h134 h135 h136 h137 h144 h138 h142 h143 h140 h141 h116 h118 h119 h120 h121 h122 h123 h124 h85 h117 h113 h146 (by omega) (by omega) (by omega) hq17 hq18 hq19 hq20 hq21 hq22 hfr hlen hsl (by omega) hk0
      · refine ab_aload_n d_MO_split1_61 rfl ?_
        refine ab_getf (fs := mof m_thrown m_taped m_length m_out w22 m_gathered m_sets m_ranges m_nodes m_at m_flags m_fault m_place m_numbered m_depth m_value m_isNot m_least0 m_most0 m_slot m_work m_got m_rowMany c23 cw24 t25 m_isMatch m_matchGroups af215 ab216 m_founds m_pieces m_writtenMany m_templateWide m_tooMuch) f_MO_190 d_MO_split1_62 h80.2.2 rfl ?_
        refine zz_iconst d_MO_split1_65 ?_
        refine zz_iald d_MO_split1_66 h138 (by omega) ?_
        refine zz_if_eq (tgt := 38) d_MO_split1_67 (by decide) (by omega) (fun c50 => ?_) (fun c50 => ?_)
        · exact ih (m_wide := w22) (m_charAt := c23) (m_charWide := cw24) (m_trail := t25) (m_allFrom := af215) (m_allBefore := ab216) (JU := JU26) (CO := CO27) (ZN := ZN28) (ZS := ZS29) (SP := SP210) (PL := PL211) (PT := PT212) (TS := TS213) (TO := TO214) (m_pieces := m_pieces) (FA := FA) (la := la) h80 h134 h135 h136 h137 h144 h138 h142 h143 h140 h141 h116 h118 h119 h120 h121 h122 h123 h124 h85 h117 h113 h146 (by omega) (by omega) (by omega) hq17 hq18 hq19 hq20 hq21 hq22 hfr hlen hsl (by omega) hk0
        · refine ab_aload_n d_MO_split1_70 rfl ?_
          refine ab_getf (fs := mof m_thrown m_taped m_length m_out w22 m_gathered m_sets m_ranges m_nodes m_at m_flags m_fault m_place m_numbered m_depth m_value m_isNot m_least0 m_most0 m_slot m_work m_got m_rowMany c23 cw24 t25 m_isMatch m_matchGroups af215 ab216 m_founds m_pieces m_writtenMany m_templateWide m_tooMuch) f_MO_190 d_MO_split1_71 h80.2.2 rfl ?_
          refine zz_iconst d_MO_split1_74 ?_
          refine zz_iald d_MO_split1_75 h138 (by omega) ?_
          refine ab_aload_n d_MO_split1_76 rfl ?_
          refine ab_getf (fs := mof m_thrown m_taped m_length m_out w22 m_gathered m_sets m_ranges m_nodes m_at m_flags m_fault m_place m_numbered m_depth m_value m_isNot m_least0 m_most0 m_slot m_work m_got m_rowMany c23 cw24 t25 m_isMatch m_matchGroups af215 ab216 m_founds m_pieces m_writtenMany m_templateWide m_tooMuch) f_MO_510 d_MO_split1_77 h80.2.2 rfl ?_
          refine zz_icmp_ne (tgt := 86) d_MO_split1_80 (by decide) (by omega) (by omega) (fun c51 => ?_) (fun c51 => ?_)
          · refine ab_aload_n d_MO_split1_86 rfl ?_
            refine ab_iload_n d_MO_split1_87 rfl ?_
            refine ab_aload_n d_MO_split1_88 rfl ?_
            refine ab_getf (fs := mof m_thrown m_taped m_length m_out w22 m_gathered m_sets m_ranges m_nodes m_at m_flags m_fault m_place m_numbered m_depth m_value m_isNot m_least0 m_most0 m_slot m_work m_got m_rowMany c23 cw24 t25 m_isMatch m_matchGroups af215 ab216 m_founds m_pieces m_writtenMany m_templateWide m_tooMuch) f_MO_190 d_MO_split1_89 h80.2.2 rfl ?_
            refine zz_iconst d_MO_split1_92 ?_
            refine zz_iald d_MO_split1_93 h138 (by omega) ?_
            refine ab_callV (d' := d - 1) (as := [vz la, vz (SP210 0)]) (st := []) (r := _) (z_MO_addPiece (o := o) (m_thrown := m_thrown) (m_taped := m_taped) (m_length := m_length) (m_out := m_out) (m_wide := w22) (m_gathered := m_gathered) (m_sets := m_sets) (m_ranges := m_ranges) (m_nodes := m_nodes) (m_at := m_at) (m_flags := m_flags) (m_fault := m_fault) (m_place := m_place) (m_numbered := m_numbered) (m_depth := m_depth) (m_value := m_value) (m_isNot := m_isNot) (m_least0 := m_least0) (m_most0 := m_most0) (m_slot := m_slot) (m_work := m_work) (m_got := m_got) (m_rowMany := m_rowMany) (m_charAt := c23) (m_charWide := cw24) (m_trail := t25) (m_isMatch := m_isMatch) (m_matchGroups := m_matchGroups) (m_allFrom := af215) (m_allBefore := ab216) (m_founds := m_founds) (m_pieces := m_pieces) (m_writtenMany := m_writtenMany) (m_templateWide := m_templateWide) (m_tooMuch := m_tooMuch) (FA := FA) (x := la) (y := (SP210 0)) h80 h146 (by omega) (by omega)) (fun oc G2 h => by rcases h with ⟨_, h, _⟩ <;> exact ⟨_, h⟩) (by omega) m_MO_addPiece ml_MO_591 im_MO_addPiece se_MO_addPiece c_MO h80.2.2 (Nat.le_of_ble_eq_true rfl) d_MO_split1_94 rfl ?_
            intro v G52 hq
            rcases hq with ⟨FA253, hv, hfk, hlk, hsk, hN80, hN146⟩
            cases hv
            have h134 := hfk.get h134 (by decide)
            have h135 := hfk.get h135 (by decide)
            have h136 := hfk.get h136 (by decide)
            have h137 := hfk.get h137 (by decide)
            have h144 := hfk.get h144 (by decide)
            have h138 := hfk.get h138 (by decide)
            have h142 := hfk.get h142 (by decide)
            have h143 := hfk.get h143 (by decide)
            have h140 := hfk.get h140 (by decide)
            have h141 := hfk.get h141 (by decide)
            have h116 := hfk.get h116 (by decide)
            have h118 := hfk.get h118 (by decide)
            have h119 := hfk.get h119 (by decide)
            have h120 := hfk.get h120 (by decide)
            have h121 := hfk.get h121 (by decide)
            have h122 := hfk.get h122 (by decide)
            have h123 := hfk.get h123 (by decide)
            have h124 := hfk.get h124 (by decide)
            have h85 := hfk.get h85 (by decide)
            have h117 := hfk.get h117 (by decide)
            have h113 := hfk.get h113 (by decide)
            have hfr := hfr.tr hfk (by decide)
            have hlen := hlk.trans hlen
            have hsl := hsk.trans hsl
            have h80 := hN80
            have h146 := hN146
            change ab_W _ _ _ G52 97 [some (vR 80), some (vz s), some (vz la)] [] _
            refine ab_aload_n d_MO_split1_97 rfl ?_
            refine ab_getf (fs := mof m_thrown m_taped m_length m_out w22 m_gathered m_sets m_ranges m_nodes m_at m_flags m_fault m_place m_numbered m_depth m_value m_isNot m_least0 m_most0 m_slot m_work m_got m_rowMany c23 cw24 t25 m_isMatch m_matchGroups af215 ab216 m_founds (m_pieces + 1) m_writtenMany m_templateWide m_tooMuch) f_MO_190 d_MO_split1_98 h80.2.2 rfl ?_
            refine zz_iconst d_MO_split1_101 ?_
            refine zz_iald d_MO_split1_102 h138 (by omega) ?_
            refine ab_istore_n d_MO_split1_103 (Nat.le_of_ble_eq_true rfl) (Nat.le_of_ble_eq_true rfl) rfl ?_
            change ab_W _ _ _ G52 104 [some (vR 80), some (vz s), some (vz (SP210 1))] [] _
            refine ab_goto (tgt := 38) d_MO_split1_104 (by decide) ?_
            exact ih (m_wide := w22) (m_charAt := c23) (m_charWide := cw24) (m_trail := t25) (m_allFrom := af215) (m_allBefore := ab216) (JU := JU26) (CO := CO27) (ZN := ZN28) (ZS := ZS29) (SP := SP210) (PL := PL211) (PT := PT212) (TS := TS213) (TO := TO214) (m_pieces := (m_pieces + 1)) (FA := FA253) (la := (SP210 1)) h80 h134 h135 h136 h137 h144 h138 h142 h143 h140 h141 h116 h118 h119 h120 h121 h122 h123 h124 h85 h117 h113 h146 (by omega) (by omega) (by omega) hq17 hq18 hq19 hq20 hq21 hq22 hfr hlen hsl (by omega) hk0
          · refine ab_goto (tgt := 38) d_MO_split1_83 (by decide) ?_
            exact ih (m_wide := w22) (m_charAt := c23) (m_charWide := cw24) (m_trail := t25) (m_allFrom := af215) (m_allBefore := ab216) (JU := JU26) (CO := CO27) (ZN := ZN28) (ZS := ZS29) (SP := SP210) (PL := PL211) (PT := PT212) (TS := TS213) (TO := TO214) (m_pieces := m_pieces) (FA := FA) (la := la) h80 h134 h135 h136 h137 h144 h138 h142 h143 h140 h141 h116 h118 h119 h120 h121 h122 h123 h124 h85 h117 h113 h146 (by omega) (by omega) (by omega) hq17 hq18 hq19 hq20 hq21 hq22 hfr hlen hsl (by omega) hk0
    · cases hv
      have h134 := hfk.get h134 (by decide)
      have h116 := hfk.get h116 (by decide)
      have h118 := hfk.get h118 (by decide)
      have h119 := hfk.get h119 (by decide)
      have h120 := hfk.get h120 (by decide)
      have h121 := hfk.get h121 (by decide)
      have h122 := hfk.get h122 (by decide)
      have h123 := hfk.get h123 (by decide)
      have h124 := hfk.get h124 (by decide)
      have h85 := hfk.get h85 (by decide)
      have h117 := hfk.get h117 (by decide)
      have h113 := hfk.get h113 (by decide)
      have h146 := hfk.get h146 (by decide)
      have hfr := hfr.tr hfk (by decide)
      have hlen := hlk.trans hlen
      have hsl := hsk.trans hsl
      have h80 := hN80
      have h135 := hN135
      have h136 := hN136
      have h137 := hN137
      have h144 := hN144
      have h138 := hN138
      have h142 := hN142
      have h143 := hN143
      have h140 := hN140
      have h141 := hN141
      change ab_W _ _ _ G1 43 [some (vR 80), some (vz s), some (vz la)] [vz 0] _
      refine zz_if_eq (tgt := 107) d_MO_split1_43 (by decide) (by decide) (fun c54 => ?_) (fun c54 => absurd c54 (by decide))
      refine ab_less (L' := [some (vR 80), none, some (vz la)]) (fun i v h => by rcases i with _ | _ | _ | i <;> first | exact h | (simp at h)) ?_
      exact hk0 _ _ _ _ _ _ _ _ _ _ _ _ _ _ _ _ _ _ _ h80 h135 h136 h137 h144 h138 h142 h143 h140 h141 h146 (by first | exact hq40 | exact rgs_w hq40 (by omega)) (by first | exact hq41 | exact rgs_w hq41 (by omega)) (by first | exact hq42 | exact rgs_w hq42 (by omega)) (by first | exact hq43 | exact rgs_w hq43 (by omega)) (by first | exact hq44 | exact rgs_w hq44 (by omega)) (by first | exact hq45 | exact rgs_w hq45 (by omega)) (by omega) (by omega) hfr hlen hsl
set_option maxRecDepth 100000 in
set_option maxHeartbeats 4000000 in
theorem z_MO_split1 {X : ab_X} {d : Nat} {o : Nat → Nat} {G : ab_G} {m_thrown : Int} {m_taped : Int} {m_length : Int} {m_out : Int} {m_wide : Int} {m_gathered : Int} {m_sets : Int} {m_ranges : Int} {m_nodes : Int} {m_at : Int} {m_flags : Int} {m_fault : Int} {m_place : Int} {m_numbered : Int} {m_depth : Int} {m_value : Int} {m_isNot : Int} {m_least0 : Int} {m_most0 : Int} {m_slot : Int} {m_work : Int} {m_got : Int} {m_rowMany : Int} {m_charAt : Int} {m_charWide : Int} {m_trail : Int} {m_isMatch : Int} {m_matchGroups : Int} {m_allFrom : Int} {m_allBefore : Int} {m_founds : Int} {m_pieces : Int} {m_writtenMany : Int} {m_templateWide : Int} {m_tooMuch : Int} {A_there : Int → Int} {A_groupsOf : Int → Int} {A_flagsOf : Int → Int} {A_step : Int → Int} {A_next : Int → Int} {A_more : Int → Int} {A_classAt : Int → Int} {A_classMany : Int → Int} {A_classLow : Int → Int} {A_classHigh : Int → Int} {A_subject : Int → Int} {A_stepMany : Int → Int} {A_entry : Int → Int} {CN : Int → Int} {JU : Int → Int} {CO : Int → Int} {ZN : Int → Int} {ZS : Int → Int} {SP : Int → Int} {PL : Int → Int} {PT : Int → Int} {TS : Int → Int} {TO : Int → Int} {FA : Int → Int} {s : Int} (h80 : cc o G 80 280 (ab_ob 12 (mof m_thrown m_taped m_length m_out m_wide m_gathered m_sets m_ranges m_nodes m_at m_flags m_fault m_place m_numbered m_depth m_value m_isNot m_least0 m_most0 m_slot m_work m_got m_rowMany m_charAt m_charWide m_trail m_isMatch m_matchGroups m_allFrom m_allBefore m_founds m_pieces m_writtenMany m_templateWide m_tooMuch))) (h146 : cc o G 146 346 (za 4100 FA)) (h134 : cc o G 134 334 (zl 392196 CN)) (h135 : cc o G 135 335 (zl 392196 JU)) (h136 : cc o G 136 336 (zl 392196 CO)) (h137 : cc o G 137 337 (zb 12500 ZN)) (h144 : cc o G 144 344 (zb 12500 ZS)) (h138 : cc o G 138 338 (za 20 SP)) (h142 : cc o G 142 342 (za 25000 PL)) (h143 : cc o G 143 343 (za 25000 PT)) (h140 : cc o G 140 340 (za 12500 TS)) (h141 : cc o G 141 341 (za 12500 TO)) (h112 : cc o G 112 312 (zb 6 A_there)) (h114 : cc o G 114 314 (za 6 A_groupsOf)) (h116 : cc o G 116 316 (za 6 A_flagsOf)) (h118 : cc o G 118 318 (za 75000 A_step)) (h119 : cc o G 119 319 (za 75000 A_next)) (h120 : cc o G 120 320 (za 75000 A_more)) (h121 : cc o G 121 321 (za 75000 A_classAt)) (h122 : cc o G 122 322 (za 75000 A_classMany)) (h123 : cc o G 123 323 (za 3600 A_classLow)) (h124 : cc o G 124 324 (za 3600 A_classHigh)) (h85 : cc o G 85 285 (za 2000 A_subject)) (h117 : cc o G 117 317 (za 6 A_stepMany)) (h113 : cc o G 113 313 (za 6 A_entry)) (n18 : ab_n0 = 18) (cle : 0 ≤ m_length ∧ m_length ≤ 2000) (jth : rgs A_there 6 0 1) (jpg : mpg A_there A_step A_next A_more A_classAt A_classMany A_stepMany A_entry A_groupsOf A_flagsOf) (jst : rgs A_step 75000 0 6) (jcl : rgs A_classLow 3600 0 1114111) (jch : rgs A_classHigh 3600 0 1114111) (jsb : rgs A_subject 2000 0 255) (cr : -2147483648 ≤ s ∧ s ≤ 2147483647) (cn0 : 0 ≤ m_pieces ∧ m_pieces ≤ 2050) (jn : rgs ZN 12500 0 1) (jse : rgs ZS 12500 0 1) (jsp : rgs SP 20 (-1) 2000) (jpt : rgs PT 25000 0 12500) (jts : rgs TS 12500 0 19) (jto : rgs TO 12500 (-1) 2000) (hd : 11 ≤ d) : ab_F X d y_MO_split1 (.code y_MO_split1 b_MO_split1 3 (some (.int))) [vR 80, vz s] G (fun oc G2 => ∃ v : Int, ∃ th2 : Int, ∃ n2 : Int, ∃ af2 : Int, ∃ ab2 : Int, ∃ w2 : Int, ∃ c2 : Int, ∃ cw2 : Int, ∃ t2 : Int, ∃ JU2 : Int → Int, ∃ CO2 : Int → Int, ∃ ZN2 : Int → Int, ∃ ZS2 : Int → Int, ∃ SP2 : Int → Int, ∃ PL2 : Int → Int, ∃ PT2 : Int → Int, ∃ TS2 : Int → Int, ∃ TO2 : Int → Int, ∃ CN2 : Int → Int, ∃ FA2 : Int → Int, oc = .returned (some (vz v)) ∧ fx o o [280, 334, 335, 336, 337, 344, 338, 342, 343, 340, 341, 346] G G2 ∧ G2.length = G.length ∧ ab_slots G2 = ab_slots G ∧ cc o G2 80 280 (ab_ob 12 (mof th2 m_taped m_length m_out w2 m_gathered m_sets m_ranges m_nodes m_at m_flags m_fault m_place m_numbered m_depth m_value m_isNot m_least0 m_most0 m_slot m_work m_got m_rowMany c2 cw2 t2 m_isMatch m_matchGroups af2 ab2 m_founds n2 m_writtenMany m_templateWide m_tooMuch)) ∧ cc o G2 135 335 (zl 392196 JU2) ∧ cc o G2 136 336 (zl 392196 CO2) ∧ cc o G2 137 337 (zb 12500 ZN2) ∧ cc o G2 144 344 (zb 12500 ZS2) ∧ cc o G2 138 338 (za 20 SP2) ∧ cc o G2 142 342 (za 25000 PL2) ∧ cc o G2 143 343 (za 25000 PT2) ∧ cc o G2 140 340 (za 12500 TS2) ∧ cc o G2 141 341 (za 12500 TO2) ∧ cc o G2 134 334 (zl 392196 CN2) ∧ cc o G2 146 346 (za 4100 FA2) ∧ (rgs ZN2 12500 0 1) ∧ (rgs ZS2 12500 0 1) ∧ (rgs SP2 20 (-1) 2000) ∧ (rgs PT2 25000 0 12500) ∧ (rgs TS2 12500 0 19) ∧ (rgs TO2 12500 (-1) 2000) ∧ (0 ≤ n2 ∧ n2 ≤ 2050)) := by
  refine ab_F_of (by decide +kernel) (Nat.le_of_ble_eq_true rfl) ?_
  obtain ⟨Q, hQ⟩ : ∃ z : Outcome → ab_G → Prop, z = (fun oc G2 => ∃ v : Int, ∃ th2 : Int, ∃ n2 : Int, ∃ af2 : Int, ∃ ab2 : Int, ∃ w2 : Int, ∃ c2 : Int, ∃ cw2 : Int, ∃ t2 : Int, ∃ JU2 : Int → Int, ∃ CO2 : Int → Int, ∃ ZN2 : Int → Int, ∃ ZS2 : Int → Int, ∃ SP2 : Int → Int, ∃ PL2 : Int → Int, ∃ PT2 : Int → Int, ∃ TS2 : Int → Int, ∃ TO2 : Int → Int, ∃ CN2 : Int → Int, ∃ FA2 : Int → Int, oc = .returned (some (vz v)) ∧ fx o o [280, 334, 335, 336, 337, 344, 338, 342, 343, 340, 341, 346] G G2 ∧ G2.length = G.length ∧ ab_slots G2 = ab_slots G ∧ cc o G2 80 280 (ab_ob 12 (mof th2 m_taped m_length m_out w2 m_gathered m_sets m_ranges m_nodes m_at m_flags m_fault m_place m_numbered m_depth m_value m_isNot m_least0 m_most0 m_slot m_work m_got m_rowMany c2 cw2 t2 m_isMatch m_matchGroups af2 ab2 m_founds n2 m_writtenMany m_templateWide m_tooMuch)) ∧ cc o G2 135 335 (zl 392196 JU2) ∧ cc o G2 136 336 (zl 392196 CO2) ∧ cc o G2 137 337 (zb 12500 ZN2) ∧ cc o G2 144 344 (zb 12500 ZS2) ∧ cc o G2 138 338 (za 20 SP2) ∧ cc o G2 142 342 (za 25000 PL2) ∧ cc o G2 143 343 (za 25000 PT2) ∧ cc o G2 140 340 (za 12500 TS2) ∧ cc o G2 141 341 (za 12500 TO2) ∧ cc o G2 134 334 (zl 392196 CN2) ∧ cc o G2 146 346 (za 4100 FA2) ∧ (rgs ZN2 12500 0 1) ∧ (rgs ZS2 12500 0 1) ∧ (rgs SP2 20 (-1) 2000) ∧ (rgs PT2 25000 0 12500) ∧ (rgs TS2 12500 0 19) ∧ (rgs TO2 12500 (-1) 2000) ∧ (0 ≤ n2 ∧ n2 ≤ 2050)) := ⟨_, rfl⟩
  rw [← hQ]
  change ab_W X (ab_pl y_MO_split1 b_MO_split1 3 (some (.int))) d G 0 [some (vR 80), some (vz s), none] [] Q
  have hfr : fx o o [280, 334, 335, 336, 337, 344, 338, 342, 343, 340, 341, 346] G G := fx.rf
  have hlen : G.length = G.length := rfl
  have hsl : ab_slots G = ab_slots G := rfl
  refine ab_aload_n d_MO_split1_0 rfl ?_
  refine ab_aload_n d_MO_split1_1 rfl ?_
  refine ab_iload_n d_MO_split1_2 rfl ?_
  refine ab_callV (d' := d - 1) (as := [vz s]) (st := [vR 80]) (r := _) (z_MO_isThere (o := o) (m_thrown := m_thrown) (m_taped := m_taped) (m_length := m_length) (m_out := m_out) (m_wide := m_wide) (m_gathered := m_gathered) (m_sets := m_sets) (m_ranges := m_ranges) (m_nodes := m_nodes) (m_at := m_at) (m_flags := m_flags) (m_fault := m_fault) (m_place := m_place) (m_numbered := m_numbered) (m_depth := m_depth) (m_value := m_value) (m_isNot := m_isNot) (m_least0 := m_least0) (m_most0 := m_most0) (m_slot := m_slot) (m_work := m_work) (m_got := m_got) (m_rowMany := m_rowMany) (m_charAt := m_charAt) (m_charWide := m_charWide) (m_trail := m_trail) (m_isMatch := m_isMatch) (m_matchGroups := m_matchGroups) (m_allFrom := m_allFrom) (m_allBefore := m_allBefore) (m_founds := m_founds) (m_pieces := m_pieces) (m_writtenMany := m_writtenMany) (m_templateWide := m_templateWide) (m_tooMuch := m_tooMuch) (A_there := A_there) (x := s) h80 h112 (by omega) jth) (fun oc G2 h => by rcases h with ⟨_, h, _⟩ <;> exact ⟨_, h⟩) (by omega) m_MO_isThere ml_MO_507 im_MO_isThere se_MO_isThere c_MO h80.2.2 (Nat.le_of_ble_eq_true rfl) d_MO_split1_3 rfl ?_
  intro v G1 hq
  rcases hq with ⟨v2, hv, hGe, hq3, hq4⟩
  cases hv
  rw [hGe]
  change ab_W _ _ _ G 6 [some (vR 80), some (vz s), none] [vz v2, vR 80] _
  refine zz_if_eq (tgt := 13) d_MO_split1_6 (by decide) (by omega) (fun c5 => ?_) (fun c5 => ?_)
  · refine zz_iconst d_MO_split1_13 ?_
    refine ab_putf (fs := mof m_thrown m_taped m_length m_out m_wide m_gathered m_sets m_ranges m_nodes m_at m_flags m_fault m_place m_numbered m_depth m_value m_isNot m_least0 m_most0 m_slot m_work m_got m_rowMany m_charAt m_charWide m_trail m_isMatch m_matchGroups m_allFrom m_allBefore m_founds m_pieces m_writtenMany m_templateWide m_tooMuch) f_MO_220 (Or.inl rfl) d_MO_split1_14 h80.2.2 (Nat.le_of_ble_eq_true rfl) (fun _ => ⟨rfl, rfl⟩) (h80.2.1 (by decide)) ?_
    obtain ⟨G6, eG6⟩ : ∃ z : ab_G, z = List.set G 80 (ab_ob 12 (mof 1 m_taped m_length m_out m_wide m_gathered m_sets m_ranges m_nodes m_at m_flags m_fault m_place m_numbered m_depth m_value m_isNot m_least0 m_most0 m_slot m_work m_got m_rowMany m_charAt m_charWide m_trail m_isMatch m_matchGroups m_allFrom m_allBefore m_founds m_pieces m_writtenMany m_templateWide m_tooMuch)) := ⟨_, rfl⟩
    have h146 := h146.keep h80 eG6 (by decide)
    have h134 := h134.keep h80 eG6 (by decide)
    have h135 := h135.keep h80 eG6 (by decide)
    have h136 := h136.keep h80 eG6 (by decide)
    have h137 := h137.keep h80 eG6 (by decide)
    have h144 := h144.keep h80 eG6 (by decide)
    have h138 := h138.keep h80 eG6 (by decide)
    have h142 := h142.keep h80 eG6 (by decide)
    have h143 := h143.keep h80 eG6 (by decide)
    have h140 := h140.keep h80 eG6 (by decide)
    have h141 := h141.keep h80 eG6 (by decide)
    have h112 := h112.keep h80 eG6 (by decide)
    have h114 := h114.keep h80 eG6 (by decide)
    have h116 := h116.keep h80 eG6 (by decide)
    have h118 := h118.keep h80 eG6 (by decide)
    have h119 := h119.keep h80 eG6 (by decide)
    have h120 := h120.keep h80 eG6 (by decide)
    have h121 := h121.keep h80 eG6 (by decide)
    have h122 := h122.keep h80 eG6 (by decide)
    have h123 := h123.keep h80 eG6 (by decide)
    have h124 := h124.keep h80 eG6 (by decide)
    have h85 := h85.keep h80 eG6 (by decide)
    have h117 := h117.keep h80 eG6 (by decide)
    have h113 := h113.keep h80 eG6 (by decide)
    have hlen := (z_len eG6).trans hlen
    have hsl := (z_sl h80 eG6 rfl).trans hsl
    have hfr := hfr.wr h80 eG6 (by decide)
    have h80 := h80.kept eG6
    change ab_W _ _ _ (List.set G 80 (ab_ob 12 (mof 1 m_taped m_length m_out m_wide m_gathered m_sets m_ranges m_nodes m_at m_flags m_fault m_place m_numbered m_depth m_value m_isNot m_least0 m_most0 m_slot m_work m_got m_rowMany m_charAt m_charWide m_trail m_isMatch m_matchGroups m_allFrom m_allBefore m_founds m_pieces m_writtenMany m_templateWide m_tooMuch))) 17 [some (vR 80), some (vz s), none] [] _
    rw [← eG6]
    refine ab_aload_n d_MO_split1_17 rfl ?_
    refine ab_getf (fs := mof 1 m_taped m_length m_out m_wide m_gathered m_sets m_ranges m_nodes m_at m_flags m_fault m_place m_numbered m_depth m_value m_isNot m_least0 m_most0 m_slot m_work m_got m_rowMany m_charAt m_charWide m_trail m_isMatch m_matchGroups m_allFrom m_allBefore m_founds m_pieces m_writtenMany m_templateWide m_tooMuch) f_MO_220 d_MO_split1_18 h80.2.2 rfl ?_
    refine zz_if_le (tgt := 26) d_MO_split1_21 (by decide) (by decide) (fun c7 => absurd c7 (by decide)) (fun c7 => ?_)
    refine zz_iconst d_MO_split1_24 ?_
    refine zz_iret rfl d_MO_split1_25 ?_
    rw [hQ]; exact ⟨_, _, _, _, _, _, _, _, _, _, _, _, _, _, _, _, _, _, _, _, rfl, hfr, hlen, hsl, h80, h135, h136, h137, h144, h138, h142, h143, h140, h141, h134, h146, (by first | exact jn | exact rgs_w jn (by omega)), (by first | exact jse | exact rgs_w jse (by omega)), (by first | exact jsp | exact rgs_w jsp (by omega)), (by first | exact jpt | exact rgs_w jpt (by omega)), (by first | exact jts | exact rgs_w jts (by omega)), (by first | exact jto | exact rgs_w jto (by omega)), (by omega)⟩
  · refine zz_iconst d_MO_split1_9 ?_
    refine ab_goto (tgt := 14) d_MO_split1_10 (by decide) ?_
    refine ab_putf (fs := mof m_thrown m_taped m_length m_out m_wide m_gathered m_sets m_ranges m_nodes m_at m_flags m_fault m_place m_numbered m_depth m_value m_isNot m_least0 m_most0 m_slot m_work m_got m_rowMany m_charAt m_charWide m_trail m_isMatch m_matchGroups m_allFrom m_allBefore m_founds m_pieces m_writtenMany m_templateWide m_tooMuch) f_MO_220 (Or.inl rfl) d_MO_split1_14 h80.2.2 (Nat.le_of_ble_eq_true rfl) (fun _ => ⟨rfl, rfl⟩) (h80.2.1 (by decide)) ?_
    obtain ⟨G8, eG8⟩ : ∃ z : ab_G, z = List.set G 80 (ab_ob 12 (mof 0 m_taped m_length m_out m_wide m_gathered m_sets m_ranges m_nodes m_at m_flags m_fault m_place m_numbered m_depth m_value m_isNot m_least0 m_most0 m_slot m_work m_got m_rowMany m_charAt m_charWide m_trail m_isMatch m_matchGroups m_allFrom m_allBefore m_founds m_pieces m_writtenMany m_templateWide m_tooMuch)) := ⟨_, rfl⟩
    have h146 := h146.keep h80 eG8 (by decide)
    have h134 := h134.keep h80 eG8 (by decide)
    have h135 := h135.keep h80 eG8 (by decide)
    have h136 := h136.keep h80 eG8 (by decide)
    have h137 := h137.keep h80 eG8 (by decide)
    have h144 := h144.keep h80 eG8 (by decide)
    have h138 := h138.keep h80 eG8 (by decide)
    have h142 := h142.keep h80 eG8 (by decide)
    have h143 := h143.keep h80 eG8 (by decide)
    have h140 := h140.keep h80 eG8 (by decide)
    have h141 := h141.keep h80 eG8 (by decide)
    have h112 := h112.keep h80 eG8 (by decide)
    have h114 := h114.keep h80 eG8 (by decide)
    have h116 := h116.keep h80 eG8 (by decide)
    have h118 := h118.keep h80 eG8 (by decide)
    have h119 := h119.keep h80 eG8 (by decide)
    have h120 := h120.keep h80 eG8 (by decide)
    have h121 := h121.keep h80 eG8 (by decide)
    have h122 := h122.keep h80 eG8 (by decide)
    have h123 := h123.keep h80 eG8 (by decide)
    have h124 := h124.keep h80 eG8 (by decide)
    have h85 := h85.keep h80 eG8 (by decide)
    have h117 := h117.keep h80 eG8 (by decide)
    have h113 := h113.keep h80 eG8 (by decide)
    have hlen := (z_len eG8).trans hlen
    have hsl := (z_sl h80 eG8 rfl).trans hsl
    have hfr := hfr.wr h80 eG8 (by decide)
    have h80 := h80.kept eG8
    change ab_W _ _ _ (List.set G 80 (ab_ob 12 (mof 0 m_taped m_length m_out m_wide m_gathered m_sets m_ranges m_nodes m_at m_flags m_fault m_place m_numbered m_depth m_value m_isNot m_least0 m_most0 m_slot m_work m_got m_rowMany m_charAt m_charWide m_trail m_isMatch m_matchGroups m_allFrom m_allBefore m_founds m_pieces m_writtenMany m_templateWide m_tooMuch))) 17 [some (vR 80), some (vz s), none] [] _
    rw [← eG8]
    refine ab_aload_n d_MO_split1_17 rfl ?_
    refine ab_getf (fs := mof 0 m_taped m_length m_out m_wide m_gathered m_sets m_ranges m_nodes m_at m_flags m_fault m_place m_numbered m_depth m_value m_isNot m_least0 m_most0 m_slot m_work m_got m_rowMany m_charAt m_charWide m_trail m_isMatch m_matchGroups m_allFrom m_allBefore m_founds m_pieces m_writtenMany m_templateWide m_tooMuch) f_MO_220 d_MO_split1_18 h80.2.2 rfl ?_
    refine zz_if_le (tgt := 26) d_MO_split1_21 (by decide) (by decide) (fun c9 => ?_) (fun c9 => absurd c9 (by decide))
    obtain ⟨hp1_, hp2_, hp3_, hp4_, hp5_⟩ := jpg s (by omega) (by omega) (hq4 (by omega)).2.2
    refine ab_aload_n d_MO_split1_26 rfl ?_
    refine zz_iconst d_MO_split1_27 ?_
    refine ab_putf (fs := mof 0 m_taped m_length m_out m_wide m_gathered m_sets m_ranges m_nodes m_at m_flags m_fault m_place m_numbered m_depth m_value m_isNot m_least0 m_most0 m_slot m_work m_got m_rowMany m_charAt m_charWide m_trail m_isMatch m_matchGroups m_allFrom m_allBefore m_founds m_pieces m_writtenMany m_templateWide m_tooMuch) f_MO_588 (Or.inl rfl) d_MO_split1_28 h80.2.2 (Nat.le_of_ble_eq_true rfl) (fun _ => ⟨rfl, rfl⟩) (h80.2.1 (by decide)) ?_
    obtain ⟨G10, eG10⟩ : ∃ z : ab_G, z = List.set G8 80 (ab_ob 12 (mof 0 m_taped m_length m_out m_wide m_gathered m_sets m_ranges m_nodes m_at m_flags m_fault m_place m_numbered m_depth m_value m_isNot m_least0 m_most0 m_slot m_work m_got m_rowMany m_charAt m_charWide m_trail m_isMatch m_matchGroups m_allFrom m_allBefore m_founds 0 m_writtenMany m_templateWide m_tooMuch)) := ⟨_, rfl⟩
    have h146 := h146.keep h80 eG10 (by decide)
    have h134 := h134.keep h80 eG10 (by decide)
    have h135 := h135.keep h80 eG10 (by decide)
    have h136 := h136.keep h80 eG10 (by decide)
    have h137 := h137.keep h80 eG10 (by decide)
    have h144 := h144.keep h80 eG10 (by decide)
    have h138 := h138.keep h80 eG10 (by decide)
    have h142 := h142.keep h80 eG10 (by decide)
    have h143 := h143.keep h80 eG10 (by decide)
    have h140 := h140.keep h80 eG10 (by decide)
    have h141 := h141.keep h80 eG10 (by decide)
    have h112 := h112.keep h80 eG10 (by decide)
    have h114 := h114.keep h80 eG10 (by decide)
    have h116 := h116.keep h80 eG10 (by decide)
    have h118 := h118.keep h80 eG10 (by decide)
    have h119 := h119.keep h80 eG10 (by decide)
    have h120 := h120.keep h80 eG10 (by decide)
    have h121 := h121.keep h80 eG10 (by decide)
    have h122 := h122.keep h80 eG10 (by decide)
    have h123 := h123.keep h80 eG10 (by decide)
    have h124 := h124.keep h80 eG10 (by decide)
    have h85 := h85.keep h80 eG10 (by decide)
    have h117 := h117.keep h80 eG10 (by decide)
    have h113 := h113.keep h80 eG10 (by decide)
    have hlen := (z_len eG10).trans hlen
    have hsl := (z_sl h80 eG10 rfl).trans hsl
    have hfr := hfr.wr h80 eG10 (by decide)
    have h80 := h80.kept eG10
    change ab_W _ _ _ (List.set G8 80 (ab_ob 12 (mof 0 m_taped m_length m_out m_wide m_gathered m_sets m_ranges m_nodes m_at m_flags m_fault m_place m_numbered m_depth m_value m_isNot m_least0 m_most0 m_slot m_work m_got m_rowMany m_charAt m_charWide m_trail m_isMatch m_matchGroups m_allFrom m_allBefore m_founds 0 m_writtenMany m_templateWide m_tooMuch))) 31 [some (vR 80), some (vz s), none] [] _
    rw [← eG10]
    refine zz_iconst d_MO_split1_31 ?_
    refine ab_istore_n d_MO_split1_32 (Nat.le_of_ble_eq_true rfl) (Nat.le_of_ble_eq_true rfl) rfl ?_
    change ab_W _ _ _ G10 33 [some (vR 80), some (vz s), some (vz 0)] [] _
    refine ab_aload_n d_MO_split1_33 rfl ?_
    refine ab_iload_n d_MO_split1_34 rfl ?_
    refine ab_callV (d' := d - 1) (as := [vz s]) (st := []) (r := _) (z_MO_beginAll (o := o) (m_thrown := 0) (m_taped := m_taped) (m_length := m_length) (m_out := m_out) (m_wide := m_wide) (m_gathered := m_gathered) (m_sets := m_sets) (m_ranges := m_ranges) (m_nodes := m_nodes) (m_at := m_at) (m_flags := m_flags) (m_fault := m_fault) (m_place := m_place) (m_numbered := m_numbered) (m_depth := m_depth) (m_value := m_value) (m_isNot := m_isNot) (m_least0 := m_least0) (m_most0 := m_most0) (m_slot := m_slot) (m_work := m_work) (m_got := m_got) (m_rowMany := m_rowMany) (m_charAt := m_charAt) (m_charWide := m_charWide) (m_trail := m_trail) (m_isMatch := m_isMatch) (m_matchGroups := m_matchGroups) (m_allFrom := m_allFrom) (m_allBefore := m_allBefore) (m_founds := m_founds) (m_pieces := 0) (m_writtenMany := m_writtenMany) (m_templateWide := m_templateWide) (m_tooMuch := m_tooMuch) (A_step := A_step) (A_next := A_next) (A_more := A_more) (A_classAt := A_classAt) (A_classMany := A_classMany) (A_classLow := A_classLow) (A_classHigh := A_classHigh) (A_subject := A_subject) (A_stepMany := A_stepMany) (A_entry := A_entry) (CN := CN) (ZN := ZN) (s := s) h80 h134 h137 h118 h119 h120 h121 h122 h123 h124 h85 h117 h113 (by omega) (by omega) (by omega) hp5_ jst jcl jch jsb jn (by omega)) (fun oc G2 h => by rcases h with ⟨_, _, _, _, _, h, _⟩ <;> exact ⟨_, h⟩) (by omega) m_MO_beginAll ml_MO_582 im_MO_beginAll se_MO_beginAll c_MO h80.2.2 (Nat.le_of_ble_eq_true rfl) d_MO_split1_35 rfl ?_
    intro v G11 hq
    rcases hq with ⟨w212, c213, cw214, CN215, ZN216, hv, hfk, hlk, hsk, hN80, hN134, hN137, hq17, hq18⟩
    cases hv
    have h146 := hfk.get h146 (by decide)
    have h135 := hfk.get h135 (by decide)
    have h136 := hfk.get h136 (by decide)
    have h144 := hfk.get h144 (by decide)
    have h138 := hfk.get h138 (by decide)
    have h142 := hfk.get h142 (by decide)
    have h143 := hfk.get h143 (by decide)
    have h140 := hfk.get h140 (by decide)
    have h141 := hfk.get h141 (by decide)
    have h112 := hfk.get h112 (by decide)
    have h114 := hfk.get h114 (by decide)
    have h116 := hfk.get h116 (by decide)
    have h118 := hfk.get h118 (by decide)
    have h119 := hfk.get h119 (by decide)
    have h120 := hfk.get h120 (by decide)
    have h121 := hfk.get h121 (by decide)
    have h122 := hfk.get h122 (by decide)
    have h123 := hfk.get h123 (by decide)
    have h124 := hfk.get h124 (by decide)
    have h85 := hfk.get h85 (by decide)
    have h117 := hfk.get h117 (by decide)
    have h113 := hfk.get h113 (by decide)
    have hfr := hfr.tr hfk (by decide)
    have hlen := hlk.trans hlen
    have hsl := hsk.trans hsl
    have h80 := hN80
    have h134 := hN134
    have h137 := hN137
    change ab_W _ _ _ G11 38 [some (vR 80), some (vz s), some (vz 0)] [] _
    refine y_MO_split1_38 (m_thrown := 0) (m_taped := m_taped) (m_length := m_length) (m_out := m_out) (m_gathered := m_gathered) (m_sets := m_sets) (m_ranges := m_ranges) (m_nodes := m_nodes) (m_at := m_at) (m_flags := m_flags) (m_fault := m_fault) (m_place := m_place) (m_numbered := m_numbered) (m_depth := m_depth) (m_value := m_value) (m_isNot := m_isNot) (m_least0 := m_least0) (m_most0 := m_most0) (m_slot := m_slot) (m_work := m_work) (m_got := m_got) (m_rowMany := m_rowMany) (m_isMatch := m_isMatch) (m_matchGroups := m_matchGroups) (m_founds := m_founds) (m_writtenMany := m_writtenMany) (m_templateWide := m_templateWide) (m_tooMuch := m_tooMuch) (A_flagsOf := A_flagsOf) (A_step := A_step) (A_next := A_next) (A_more := A_more) (A_classAt := A_classAt) (A_classMany := A_classMany) (A_classLow := A_classLow) (A_classHigh := A_classHigh) (A_subject := A_subject) (A_stepMany := A_stepMany) (A_entry := A_entry) (CN := CN215) (s := s) (G0 := G11) (m_wide := w212) (m_charAt := c213) (m_charWide := cw214) (m_trail := m_trail) (m_allFrom := 0) (m_allBefore := (-1)) (JU := JU) (CO := CO) (ZN := ZN216) (ZS := ZS) (SP := SP) (PL := PL) (PT := PT) (TS := TS) (TO := TO) (m_pieces := 0) (FA := FA) (la := 0) (by omega) (by omega) (by omega) hp5_ jst jcl jch jsb (by omega) (by omega) hq18 (by omega) (Int.toNat (m_length + 1 - (-1)) + 1) h80 h134 h135 h136 h137 h144 h138 h142 h143 h140 h141 h116 h118 h119 h120 h121 h122 h123 h124 h85 h117 h113 h146 (by omega) (by omega) (by omega) hq17 jse jsp jpt jts jto fx.rf rfl rfl (by omega) (fun G19 w220 c221 cw222 t223 JU224 CO225 ZN226 ZS227 SP228 PL229 PT230 TS231 TO232 af233 ab234 FA235 n236 la237 hN80 hN135 hN136 hN137 hN144 hN138 hN142 hN143 hN140 hN141 hN146 hq38 hq39 hq40 hq41 hq42 hq43 hq44 hq45 hfk hlk hsk => ?_)
    · have h134 := hfk.get h134 (by decide)
      have h112 := hfk.get h112 (by decide)
      have h114 := hfk.get h114 (by decide)
      have h116 := hfk.get h116 (by decide)
      have h118 := hfk.get h118 (by decide)
      have h119 := hfk.get h119 (by decide)
      have h120 := hfk.get h120 (by decide)
      have h121 := hfk.get h121 (by decide)
      have h122 := hfk.get h122 (by decide)
      have h123 := hfk.get h123 (by decide)
      have h124 := hfk.get h124 (by decide)
      have h85 := hfk.get h85 (by decide)
      have h117 := hfk.get h117 (by decide)
      have h113 := hfk.get h113 (by decide)
      have hfr := hfr.tr hfk (by decide)
      have hlen := hlk.trans hlen
      have hsl := hsk.trans hsl
      have h80 := hN80
      have h135 := hN135
      have h136 := hN136
      have h137 := hN137
      have h144 := hN144
      have h138 := hN138
      have h142 := hN142
      have h143 := hN143
      have h140 := hN140
      have h141 := hN141
      have h146 := hN146
      change ab_W _ _ _ G19 107 [some (vR 80), none, some (vz la237)] [] _
      refine ab_aload_n d_MO_split1_107 rfl ?_
      refine ab_iload_n d_MO_split1_108 rfl ?_
      refine ab_aload_n d_MO_split1_109 rfl ?_
      refine ab_getf (fs := mof 0 m_taped m_length m_out w220 m_gathered m_sets m_ranges m_nodes m_at m_flags m_fault m_place m_numbered m_depth m_value m_isNot m_least0 m_most0 m_slot m_work m_got m_rowMany c221 cw222 t223 m_isMatch m_matchGroups af233 ab234 m_founds n236 m_writtenMany m_templateWide m_tooMuch) f_MO_510 d_MO_split1_110 h80.2.2 rfl ?_
      refine ab_callV (d' := d - 1) (as := [vz la237, vz m_length]) (st := []) (r := _) (z_MO_addPiece (o := o) (m_thrown := 0) (m_taped := m_taped) (m_length := m_length) (m_out := m_out) (m_wide := w220) (m_gathered := m_gathered) (m_sets := m_sets) (m_ranges := m_ranges) (m_nodes := m_nodes) (m_at := m_at) (m_flags := m_flags) (m_fault := m_fault) (m_place := m_place) (m_numbered := m_numbered) (m_depth := m_depth) (m_value := m_value) (m_isNot := m_isNot) (m_least0 := m_least0) (m_most0 := m_most0) (m_slot := m_slot) (m_work := m_work) (m_got := m_got) (m_rowMany := m_rowMany) (m_charAt := c221) (m_charWide := cw222) (m_trail := t223) (m_isMatch := m_isMatch) (m_matchGroups := m_matchGroups) (m_allFrom := af233) (m_allBefore := ab234) (m_founds := m_founds) (m_pieces := n236) (m_writtenMany := m_writtenMany) (m_templateWide := m_templateWide) (m_tooMuch := m_tooMuch) (FA := FA235) (x := la237) (y := m_length) h80 h146 (by omega) (by omega)) (fun oc G2 h => by rcases h with ⟨_, h, _⟩ <;> exact ⟨_, h⟩) (by omega) m_MO_addPiece ml_MO_591 im_MO_addPiece se_MO_addPiece c_MO h80.2.2 (Nat.le_of_ble_eq_true rfl) d_MO_split1_113 rfl ?_
      intro v G46 hq
      rcases hq with ⟨FA247, hv, hfk, hlk, hsk, hN80, hN146⟩
      cases hv
      have h134 := hfk.get h134 (by decide)
      have h135 := hfk.get h135 (by decide)
      have h136 := hfk.get h136 (by decide)
      have h137 := hfk.get h137 (by decide)
      have h144 := hfk.get h144 (by decide)
      have h138 := hfk.get h138 (by decide)
      have h142 := hfk.get h142 (by decide)
      have h143 := hfk.get h143 (by decide)
      have h140 := hfk.get h140 (by decide)
      have h141 := hfk.get h141 (by decide)
      have h112 := hfk.get h112 (by decide)
      have h114 := hfk.get h114 (by decide)
      have h116 := hfk.get h116 (by decide)
      have h118 := hfk.get h118 (by decide)
      have h119 := hfk.get h119 (by decide)
      have h120 := hfk.get h120 (by decide)
      have h121 := hfk.get h121 (by decide)
      have h122 := hfk.get h122 (by decide)
      have h123 := hfk.get h123 (by decide)
      have h124 := hfk.get h124 (by decide)
      have h85 := hfk.get h85 (by decide)
      have h117 := hfk.get h117 (by decide)
      have h113 := hfk.get h113 (by decide)
      have hfr := hfr.tr hfk (by decide)
      have hlen := hlk.trans hlen
      have hsl := hsk.trans hsl
      have h80 := hN80
      have h146 := hN146
      change ab_W _ _ _ G46 116 [some (vR 80), none, some (vz la237)] [] _
      refine ab_aload_n d_MO_split1_116 rfl ?_
      refine ab_getf (fs := mof 0 m_taped m_length m_out w220 m_gathered m_sets m_ranges m_nodes m_at m_flags m_fault m_place m_numbered m_depth m_value m_isNot m_least0 m_most0 m_slot m_work m_got m_rowMany c221 cw222 t223 m_isMatch m_matchGroups af233 ab234 m_founds (n236 + 1) m_writtenMany m_templateWide m_tooMuch) f_MO_588 d_MO_split1_117 h80.2.2 rfl ?_
      refine zz_iret rfl d_MO_split1_120 ?_
      rw [hQ]; exact ⟨_, _, _, _, _, _, _, _, _, _, _, _, _, _, _, _, _, _, _, _, rfl, hfr, hlen, hsl, h80, h135, h136, h137, h144, h138, h142, h143, h140, h141, h134, h146, (by first | exact hq38 | exact rgs_w hq38 (by omega)), (by first | exact hq39 | exact rgs_w hq39 (by omega)), (by first | exact hq40 | exact rgs_w hq40 (by omega)), (by first | exact hq41 | exact rgs_w hq41 (by omega)), (by first | exact hq42 | exact rgs_w hq42 (by omega)), (by first | exact hq43 | exact rgs_w hq43 (by omega)), (by omega)⟩
