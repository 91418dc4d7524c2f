set_option maxRecDepth 100000 in
set_option maxHeartbeats 4000000 in
theorem x_MO_isThere {X : ab_X} {d : Nat} {o : Nat → Nat} {G : ab_G} {m_thrown : Int} {m_taped : Int} {m_length : Int} {m_out : Int} {m_wide : Int} {m_gathered : Int} {m_sets : Int} {m_ranges : Int} {m_nodes : Int} {m_at : Int} {m_flags : Int} {m_fault : Int} {m_place : Int} {m_numbered : Int} {m_depth : Int} {m_value : Int} {m_isNot : Int} {m_least0 : Int} {m_most0 : Int} {m_slot : Int} {m_work : Int} {m_got : Int} {m_rowMany : Int} {m_charAt : Int} {m_charWide : Int} {m_trail : Int} {m_isMatch : Int} {m_matchGroups : Int} {m_allFrom : Int} {m_allBefore : Int} {m_founds : Int} {m_pieces : Int} {m_writtenMany : Int} {m_templateWide : Int} {m_tooMuch : Int} {A_there : Int → Int} {x : Int} (h80 : cc o G 80 280 (ab_ob 12 (mof m_thrown m_taped m_length m_out m_wide m_gathered m_sets m_ranges m_nodes m_at m_flags m_fault m_place m_numbered m_depth m_value m_isNot m_least0 m_most0 m_slot m_work m_got m_rowMany m_charAt m_charWide m_trail m_isMatch m_matchGroups m_allFrom m_allBefore m_founds m_pieces m_writtenMany m_templateWide m_tooMuch))) (h112 : cc o G 112 312 (zb 6 A_there)) (cr : -2147483648 ≤ x ∧ x ≤ 2147483647) (jth : rgs A_there 6 0 1) : ab_F X d y_MO_isThere (.code y_MO_isThere b_MO_isThere 2 (some (.boolean))) [vR 80, vz x] G (fun oc G2 => ∃ v : Int, oc = .returned (some (vz v)) ∧ G2 = G ∧ (0 ≤ v ∧ v ≤ 1) ∧ (v = 1 → 0 ≤ x ∧ x < 6 ∧ A_there x = 1) ∧ (v = 0 → nth A_there x)) := by
  refine ab_F_of (by decide +kernel) (Nat.le_of_ble_eq_true rfl) ?_
  obtain ⟨Q, hQ⟩ : ∃ z : Outcome → ab_G → Prop, z = (fun oc G2 => ∃ v : Int, oc = .returned (some (vz v)) ∧ G2 = G ∧ (0 ≤ v ∧ v ≤ 1) ∧ (v = 1 → 0 ≤ x ∧ x < 6 ∧ A_there x = 1) ∧ (v = 0 → nth A_there x)) := ⟨_, rfl⟩
  rw [← hQ]
  change ab_W X (ab_pl y_MO_isThere b_MO_isThere 2 (some (.boolean))) d G 0 [some (vR 80), some (vz x)] [] Q
  have hfr : fx o o [] G G := fx.rf
  have hlen : G.length = G.length := rfl
  have hsl : ab_slots G = ab_slots G := rfl
  refine ab_iload_n d_MO_isThere_0 rfl ?_
  refine zz_if_lt (tgt := 23) d_MO_isThere_1 (by decide) (by omega) (fun c1 => ?_) (fun c1 => ?_)
  · refine zz_iconst d_MO_isThere_23 ?_
    refine zz_bret rfl (by decide) d_MO_isThere_24 ?_
    rw [hQ]; exact ⟨_, rfl, rfl, (by omega), (by omega), (by intro h_; unfold nth; omega)⟩
  · refine ab_iload_n d_MO_isThere_4 rfl ?_
    refine zz_bipush d_MO_isThere_5 (by decide) ?_
    refine zz_icmp_ge (tgt := 23) d_MO_isThere_7 (by decide) (by omega) (by decide) (fun c2 => ?_) (fun c2 => ?_)
    · refine zz_iconst d_MO_isThere_23 ?_
      refine zz_bret rfl (by decide) d_MO_isThere_24 ?_
      rw [hQ]; exact ⟨_, rfl, rfl, (by omega), (by omega), (by intro h_; unfold nth; omega)⟩
    · refine ab_aload_n d_MO_isThere_10 rfl ?_
      refine ab_getf (fs := mof m_thrown m_taped m_length m_out m_wide m_gathered m_sets m_ranges m_nodes m_at m_flags m_fault m_place m_numbered m_depth m_value m_isNot m_least0 m_most0 m_slot m_work m_got m_rowMany m_charAt m_charWide m_trail m_isMatch m_matchGroups m_allFrom m_allBefore m_founds m_pieces m_writtenMany m_templateWide m_tooMuch) f_MO_109 d_MO_isThere_11 h80.2.2 rfl ?_
      refine ab_iload_n d_MO_isThere_14 rfl ?_
      refine zz_zald d_MO_isThere_15 h112 (by omega) ?_
      have hq3 := jth x (by omega) (by omega)
      refine zz_if_eq (tgt := 23) d_MO_isThere_16 (by decide) (by omega) (fun c4 => ?_) (fun c4 => ?_)
      · refine zz_iconst d_MO_isThere_23 ?_
        refine zz_bret rfl (by decide) d_MO_isThere_24 ?_
        rw [hQ]; exact ⟨_, rfl, rfl, (by omega), (by omega), (by intro h_; unfold nth; omega)⟩
      · refine zz_iconst d_MO_isThere_19 ?_
        refine ab_goto (tgt := 24) d_MO_isThere_20 (by decide) ?_
        refine zz_bret rfl (by decide) d_MO_isThere_24 ?_
        rw [hQ]; exact ⟨_, rfl, rfl, (by omega), (by omega), (by intro h_; unfold nth; omega)⟩
set_option maxRecDepth 100000 in
set_option maxHeartbeats 4000000 in
theorem y_MO_match_162 {X : ab_X} {d : Nat} {Q : Outcome → ab_G → Prop} {o : Nat → Nat} {G0 : ab_G} {m_thrown : Int} {m_taped : Int} {m_length : Int} {m_out : Int} {m_wide : Int} {m_gathered : Int} {m_sets : Int} {m_ranges : Int} {m_nodes : Int} {m_at : Int} {m_flags : Int} {m_fault : Int} {m_place : Int} {m_numbered : Int} {m_depth : Int} {m_value : Int} {m_isNot : Int} {m_least0 : Int} {m_most0 : Int} {m_slot : Int} {m_work : Int} {m_got : Int} {m_rowMany : Int} {m_charAt : Int} {m_charWide : Int} {m_trail : Int} {m_isMatch : Int} {m_matchGroups : Int} {m_allFrom : Int} {m_allBefore : Int} {m_founds : Int} {m_pieces : Int} {m_writtenMany : Int} {m_templateWide : Int} {m_tooMuch : Int} {SP : Int → Int} {s : Int} (n18 : ab_n0 = 18) (jsp : rgs SP 20 (-1) 2000) (hd : 1 ≤ d) : ∀ (mz : Nat) {G : ab_G} {i_ : Int} {KE : Int → Int}, (cc o G 80 280 (ab_ob 12 (mof m_thrown m_taped m_length m_out m_wide m_gathered m_sets m_ranges m_nodes m_at m_flags m_fault m_place m_numbered m_depth m_value m_isNot m_least0 m_most0 m_slot m_work m_got m_rowMany m_charAt m_charWide m_trail m_isMatch m_matchGroups m_allFrom m_allBefore m_founds m_pieces m_writtenMany m_templateWide m_tooMuch))) → (cc o G 138 338 (za 20 SP)) → (cc o G 139 339 (za 20 KE)) → (0 ≤ i_ ∧ i_ ≤ 20) → (rgs KE 20 (-1) 2000) → (spE KE SP i_) → (fx o o [339] G0 G) → (G.length = G0.length) → (ab_slots G = ab_slots G0) → (Int.toNat (20 - i_) < mz) → (∀ (G2 : ab_G) (KE2 : Int → Int), (cc o G2 139 339 (za 20 KE2)) → (rgs KE2 20 (-1) 2000) → (spE KE2 SP 20) → (fx o o [339] G0 G2) → (G2.length = G0.length) → (ab_slots G2 = ab_slots G0) → ab_W X (ab_pl y_MO_match b_MO_match 6 (some (.int))) d G2 189 [some (vR 80), some (vz s), none, none, none, none] [] Q) → ab_W X (ab_pl y_MO_match b_MO_match 6 (some (.int))) d G 162 [some (vR 80), some (vz s), none, none, none, some (vz i_)] [] Q := by
  intro mz
  induction mz with
  | zero => intro G i_ KE h80 h138 h139 ci jke jE hfr hlen hsl hm hk0; exact absurd hm (Nat.not_lt_zero _)
  | succ mz ih =>
    intro G i_ KE h80 h138 h139 ci jke jE hfr hlen hsl hm hk0
    refine ab_iload d_MO_match_162 rfl ?_
    refine zz_bipush d_MO_match_164 (by decide) ?_
    refine zz_icmp_ge (tgt := 189) d_MO_match_166 (by decide) (by omega) (by decide) (fun c1 => ?_) (fun c1 => ?_)
    · refine ab_less (L' := [some (vR 80), some (vz s), none, none, none, none]) (fun i v h => by rcases i with _ | _ | _ | _ | _ | _ | i <;> first | exact h | (simp at h)) ?_
      exact hk0 _ _ h139 (by exact jke) (by exact (show i_ = 20 by omega) ▸ jE) hfr hlen hsl
    · refine ab_aload_n d_MO_match_169 rfl ?_
      refine ab_getf (fs := mof m_thrown m_taped m_length m_out m_wide m_gathered m_sets m_ranges m_nodes m_at m_flags m_fault m_place m_numbered m_depth m_value m_isNot m_least0 m_most0 m_slot m_work m_got m_rowMany m_charAt m_charWide m_trail m_isMatch m_matchGroups m_allFrom m_allBefore m_founds m_pieces m_writtenMany m_templateWide m_tooMuch) f_MO_193 d_MO_match_170 h80.2.2 rfl ?_
      refine ab_iload d_MO_match_173 rfl ?_
      refine ab_aload_n d_MO_match_175 rfl ?_
      refine ab_getf (fs := mof m_thrown m_taped m_length m_out m_wide m_gathered m_sets m_ranges m_nodes m_at m_flags m_fault m_place m_numbered m_depth m_value m_isNot m_least0 m_most0 m_slot m_work m_got m_rowMany m_charAt m_charWide m_trail m_isMatch m_matchGroups m_allFrom m_allBefore m_founds m_pieces m_writtenMany m_templateWide m_tooMuch) f_MO_190 d_MO_match_176 h80.2.2 rfl ?_
      refine ab_iload d_MO_match_179 rfl ?_
      refine zz_iald d_MO_match_181 h138 (by omega) ?_
      have hq2 := jsp i_ (by omega) (by omega)
      refine zz_iast d_MO_match_182 h139 (by omega) (h139.2.1 (by decide)) ?_
      obtain ⟨G3, eG3⟩ : ∃ z : ab_G, z = List.set G 139 (za 20 (zu KE i_ (SP i_))) := ⟨_, rfl⟩
      have h80 := h80.keep h139 eG3 (by decide)
      have h138 := h138.keep h139 eG3 (by decide)
      have hlen := (z_len eG3).trans hlen
      have hsl := (z_sl h139 eG3 rfl).trans hsl
      have hfr := hfr.wr h139 eG3 (by decide)
      have h139 := h139.kept eG3
      change ab_W _ _ _ (List.set G 139 (za 20 (zu KE i_ (SP i_)))) 183 [some (vR 80), some (vz s), none, none, none, some (vz i_)] [] _
      rw [← eG3]
      refine zz_iinc d_MO_match_183 rfl (Nat.le_of_ble_eq_true rfl) (Nat.le_of_ble_eq_true rfl) rfl ?_
      change ab_W _ _ _ G3 186 [some (vR 80), some (vz s), none, none, none, some (vz (i_ + 1))] [] _
      refine ab_goto (tgt := 162) d_MO_match_186 (by decide) ?_
      exact ih (i_ := (i_ + 1)) (KE := (zu KE i_ (SP i_))) h80 h138 h139 (by omega) (rgs_zu jke (by omega)) (spE_s jE) hfr hlen hsl (by omega) hk0
set_option maxRecDepth 100000 in
set_option maxHeartbeats 4000000 in
theorem z_MO_match {X : ab_X} {d : Nat} {o : Nat → Nat} {G : ab_G} {m_thrown : Int} {m_taped : Int} {m_length : Int} {m_out : Int} {m_wide : Int} {m_gathered : Int} {m_sets : Int} {m_ranges : Int} {m_nodes : Int} {m_at : Int} {m_flags : Int} {m_fault : Int} {m_place : Int} {m_numbered : Int} {m_depth : Int} {m_value : Int} {m_isNot : Int} {m_least0 : Int} {m_most0 : Int} {m_slot : Int} {m_work : Int} {m_got : Int} {m_rowMany : Int} {m_charAt : Int} {m_charWide : Int} {m_trail : Int} {m_isMatch : Int} {m_matchGroups : Int} {m_allFrom : Int} {m_allBefore : Int} {m_founds : Int} {m_pieces : Int} {m_writtenMany : Int} {m_templateWide : Int} {m_tooMuch : Int} {A_there : Int → Int} {A_groupsOf : Int → Int} {A_flagsOf : Int → Int} {A_step : Int → Int} {A_next : Int → Int} {A_more : Int → Int} {A_classAt : Int → Int} {A_classMany : Int → Int} {A_classLow : Int → Int} {A_classHigh : Int → Int} {A_subject : Int → Int} {A_stepMany : Int → Int} {A_entry : Int → Int} {CN : Int → Int} {JU : Int → Int} {CO : Int → Int} {ZN : Int → Int} {ZS : Int → Int} {SP : Int → Int} {PL : Int → Int} {PT : Int → Int} {TS : Int → Int} {TO : Int → Int} {V6 : Int → Sn} {KE : Int → Int} {s : Int} {fm : Int} {how : Int} {mc : Int} (h80 : cc o G 80 280 (ab_ob 12 (mof m_thrown m_taped m_length m_out m_wide m_gathered m_sets m_ranges m_nodes m_at m_flags m_fault m_place m_numbered m_depth m_value m_isNot m_least0 m_most0 m_slot m_work m_got m_rowMany m_charAt m_charWide m_trail m_isMatch m_matchGroups m_allFrom m_allBefore m_founds m_pieces m_writtenMany m_templateWide m_tooMuch))) (h139 : cc o G 139 339 (za 20 KE)) (h134 : cc o G 134 334 (zl 392196 CN)) (h135 : cc o G 135 335 (zl 392196 JU)) (h136 : cc o G 136 336 (zl 392196 CO)) (h137 : cc o G 137 337 (zb 12500 ZN)) (h144 : cc o G 144 344 (zb 12500 ZS)) (h138 : cc o G 138 338 (za 20 SP)) (h142 : cc o G 142 342 (za 25000 PL)) (h143 : cc o G 143 343 (za 25000 PT)) (h140 : cc o G 140 340 (za 12500 TS)) (h141 : cc o G 141 341 (za 12500 TO)) (h112 : cc o G 112 312 (zb 6 A_there)) (h114 : cc o G 114 314 (za 6 A_groupsOf)) (h116 : cc o G 116 316 (za 6 A_flagsOf)) (h118 : cc o G 118 318 (za 75000 A_step)) (h119 : cc o G 119 319 (za 75000 A_next)) (h120 : cc o G 120 320 (za 75000 A_more)) (h121 : cc o G 121 321 (za 75000 A_classAt)) (h122 : cc o G 122 322 (za 75000 A_classMany)) (h123 : cc o G 123 323 (za 3600 A_classLow)) (h124 : cc o G 124 324 (za 3600 A_classHigh)) (h85 : cc o G 85 285 (za 2000 A_subject)) (h117 : cc o G 117 317 (za 6 A_stepMany)) (h113 : cc o G 113 313 (za 6 A_entry)) (n18 : ab_n0 = 18) (cle : 0 ≤ m_length ∧ m_length ≤ 2000) (jth : rgs A_there 6 0 1) (jpg : mpg A_there A_step A_next A_more A_classAt A_classMany A_stepMany A_entry A_groupsOf A_flagsOf) (jst : rgs A_step 75000 0 6) (jcl : rgs A_classLow 3600 0 1114111) (jch : rgs A_classHigh 3600 0 1114111) (jsb : rgs A_subject 2000 0 255) (cr : -2147483648 ≤ s ∧ s ≤ 2147483647 ∧ -2147483648 ≤ how ∧ how ≤ 2147483647 ∧ -2147483648 ≤ mc ∧ mc ≤ 2147483647 ∧ -2147483648 ≤ fm ∧ fm ≤ 2147483647) (cim : 0 ≤ m_isMatch ∧ m_isMatch ≤ 1 ∧ 0 ≤ m_matchGroups ∧ m_matchGroups ≤ 9) (jke : rgs KE 20 (-1) 2000) (jpm : mpm A_there A_step A_next A_more A_classAt A_classMany A_classLow A_classHigh A_stepMany A_entry V6) (jn : rgs ZN 12500 0 1) (jse : rgs ZS 12500 0 1) (jsp : rgs SP 20 (-1) 2000) (jpt : rgs PT 25000 0 12500) (jts : rgs TS 12500 0 19) (jto : rgs TO 12500 (-1) 2000) (hd : 9 ≤ d) : ab_F X d y_MO_match (.code y_MO_match b_MO_match 6 (some (.int))) [vR 80, vz s, vz how, vz mc, vz fm] G (fun oc G2 => ∃ v : Int, ∃ th2 : Int, ∃ im2 : Int, ∃ mg2 : Int, ∃ w2 : Int, ∃ c2 : Int, ∃ cw2 : Int, ∃ t2 : Int, ∃ JU2 : Int → Int, ∃ CO2 : Int → Int, ∃ ZN2 : Int → Int, ∃ ZS2 : Int → Int, ∃ SP2 : Int → Int, ∃ PL2 : Int → Int, ∃ PT2 : Int → Int, ∃ TS2 : Int → Int, ∃ TO2 : Int → Int, ∃ CN2 : Int → Int, ∃ KE2 : Int → Int, oc = .returned (some (vz v)) ∧ fx o o [280, 334, 335, 336, 337, 344, 338, 342, 343, 340, 341, 339] G G2 ∧ G2.length = G.length ∧ ab_slots G2 = ab_slots G ∧ cc o G2 80 280 (ab_ob 12 (mof th2 m_taped m_length m_out w2 m_gathered m_sets m_ranges m_nodes m_at m_flags m_fault m_place m_numbered m_depth m_value m_isNot m_least0 m_most0 m_slot m_work m_got m_rowMany c2 cw2 t2 im2 mg2 m_allFrom m_allBefore m_founds m_pieces m_writtenMany m_templateWide m_tooMuch)) ∧ cc o G2 135 335 (zl 392196 JU2) ∧ cc o G2 136 336 (zl 392196 CO2) ∧ cc o G2 137 337 (zb 12500 ZN2) ∧ cc o G2 144 344 (zb 12500 ZS2) ∧ cc o G2 138 338 (za 20 SP2) ∧ cc o G2 142 342 (za 25000 PL2) ∧ cc o G2 143 343 (za 25000 PT2) ∧ cc o G2 140 340 (za 12500 TS2) ∧ cc o G2 141 341 (za 12500 TO2) ∧ cc o G2 134 334 (zl 392196 CN2) ∧ cc o G2 139 339 (za 20 KE2) ∧ (rgs ZN2 12500 0 1) ∧ (rgs ZS2 12500 0 1) ∧ (rgs SP2 20 (-1) 2000) ∧ (rgs PT2 25000 0 12500) ∧ (rgs TS2 12500 0 19) ∧ (rgs TO2 12500 (-1) 2000) ∧ (rgs KE2 20 (-1) 2000) ∧ (0 ≤ im2 ∧ im2 ≤ 1 ∧ 0 ≤ mg2 ∧ mg2 ≤ 9) ∧ (mtX A_there A_groupsOf A_flagsOf V6 A_subject m_length s how mc fm v th2 m_isMatch m_matchGroups KE im2 mg2 KE2)) := by
  refine ab_F_of (by decide +kernel) (Nat.le_of_ble_eq_true rfl) ?_
  obtain ⟨Q, hQ⟩ : ∃ z : Outcome → ab_G → Prop, z = (fun oc G2 => ∃ v : Int, ∃ th2 : Int, ∃ im2 : Int, ∃ mg2 : Int, ∃ w2 : Int, ∃ c2 : Int, ∃ cw2 : Int, ∃ t2 : Int, ∃ JU2 : Int → Int, ∃ CO2 : Int → Int, ∃ ZN2 : Int → Int, ∃ ZS2 : Int → Int, ∃ SP2 : Int → Int, ∃ PL2 : Int → Int, ∃ PT2 : Int → Int, ∃ TS2 : Int → Int, ∃ TO2 : Int → Int, ∃ CN2 : Int → Int, ∃ KE2 : Int → Int, oc = .returned (some (vz v)) ∧ fx o o [280, 334, 335, 336, 337, 344, 338, 342, 343, 340, 341, 339] G G2 ∧ G2.length = G.length ∧ ab_slots G2 = ab_slots G ∧ cc o G2 80 280 (ab_ob 12 (mof th2 m_taped m_length m_out w2 m_gathered m_sets m_ranges m_nodes m_at m_flags m_fault m_place m_numbered m_depth m_value m_isNot m_least0 m_most0 m_slot m_work m_got m_rowMany c2 cw2 t2 im2 mg2 m_allFrom m_allBefore m_founds m_pieces m_writtenMany m_templateWide m_tooMuch)) ∧ cc o G2 135 335 (zl 392196 JU2) ∧ cc o G2 136 336 (zl 392196 CO2) ∧ cc o G2 137 337 (zb 12500 ZN2) ∧ cc o G2 144 344 (zb 12500 ZS2) ∧ cc o G2 138 338 (za 20 SP2) ∧ cc o G2 142 342 (za 25000 PL2) ∧ cc o G2 143 343 (za 25000 PT2) ∧ cc o G2 140 340 (za 12500 TS2) ∧ cc o G2 141 341 (za 12500 TO2) ∧ cc o G2 134 334 (zl 392196 CN2) ∧ cc o G2 139 339 (za 20 KE2) ∧ (rgs ZN2 12500 0 1) ∧ (rgs ZS2 12500 0 1) ∧ (rgs SP2 20 (-1) 2000) ∧ (rgs PT2 25000 0 12500) ∧ (rgs TS2 12500 0 19) ∧ (rgs TO2 12500 (-1) 2000) ∧ (rgs KE2 20 (-1) 2000) ∧ (0 ≤ im2 ∧ im2 ≤ 1 ∧ 0 ≤ mg2 ∧ mg2 ≤ 9) ∧ (mtX A_there A_groupsOf A_flagsOf V6 A_subject m_length s how mc fm v th2 m_isMatch m_matchGroups KE im2 mg2 KE2)) := ⟨_, rfl⟩
  rw [← hQ]
  change ab_W X (ab_pl y_MO_match b_MO_match 6 (some (.int))) d G 0 [some (vR 80), some (vz s), some (vz how), some (vz mc), some (vz fm), none] [] Q
  have hfr : fx o o [280, 334, 335, 336, 337, 344, 338, 342, 343, 340, 341, 339] G G := fx.rf
  have hlen : G.length = G.length := rfl
  have hsl : ab_slots G = ab_slots G := rfl
  refine ab_aload_n d_MO_match_0 rfl ?_
  refine ab_aload_n d_MO_match_1 rfl ?_
  refine ab_iload_n d_MO_match_2 rfl ?_
  refine ab_callV (d' := d - 1) (as := [vz s]) (st := [vR 80]) (r := _) (x_MO_isThere (o := o) (m_thrown := m_thrown) (m_taped := m_taped) (m_length := m_length) (m_out := m_out) (m_wide := m_wide) (m_gathered := m_gathered) (m_sets := m_sets) (m_ranges := m_ranges) (m_nodes := m_nodes) (m_at := m_at) (m_flags := m_flags) (m_fault := m_fault) (m_place := m_place) (m_numbered := m_numbered) (m_depth := m_depth) (m_value := m_value) (m_isNot := m_isNot) (m_least0 := m_least0) (m_most0 := m_most0) (m_slot := m_slot) (m_work := m_work) (m_got := m_got) (m_rowMany := m_rowMany) (m_charAt := m_charAt) (m_charWide := m_charWide) (m_trail := m_trail) (m_isMatch := m_isMatch) (m_matchGroups := m_matchGroups) (m_allFrom := m_allFrom) (m_allBefore := m_allBefore) (m_founds := m_founds) (m_pieces := m_pieces) (m_writtenMany := m_writtenMany) (m_templateWide := m_templateWide) (m_tooMuch := m_tooMuch) (A_there := A_there) (x := s) h80 h112 (by omega) jth) (fun oc G2 h => by rcases h with ⟨_, h, _⟩ <;> exact ⟨_, h⟩) (by omega) m_MO_isThere ml_MO_507 im_MO_isThere se_MO_isThere c_MO h80.2.2 (Nat.le_of_ble_eq_true rfl) d_MO_match_3 rfl ?_
  intro v G1 hq
  rcases hq with ⟨v2, hv, hGe, hq3, hq4, hq5⟩
  cases hv
  rw [hGe]
  change ab_W _ _ _ G 6 [some (vR 80), some (vz s), some (vz how), some (vz mc), some (vz fm), none] [vz v2, vR 80] _
  refine zz_if_eq (tgt := 41) d_MO_match_6 (by decide) (by omega) (fun c6 => ?_) (fun c6 => ?_)
  · refine zz_iconst d_MO_match_41 ?_
    refine ab_goto (tgt := 46) d_MO_match_42 (by decide) ?_
    refine ab_putf (fs := mof m_thrown m_taped m_length m_out m_wide m_gathered m_sets m_ranges m_nodes m_at m_flags m_fault m_place m_numbered m_depth m_value m_isNot m_least0 m_most0 m_slot m_work m_got m_rowMany m_charAt m_charWide m_trail m_isMatch m_matchGroups m_allFrom m_allBefore m_founds m_pieces m_writtenMany m_templateWide m_tooMuch) f_MO_220 (Or.inl rfl) d_MO_match_46 h80.2.2 (Nat.le_of_ble_eq_true rfl) (fun _ => ⟨rfl, rfl⟩) (h80.2.1 (by decide)) ?_
    obtain ⟨G7, eG7⟩ : ∃ z : ab_G, z = List.set G 80 (ab_ob 12 (mof 1 m_taped m_length m_out m_wide m_gathered m_sets m_ranges m_nodes m_at m_flags m_fault m_place m_numbered m_depth m_value m_isNot m_least0 m_most0 m_slot m_work m_got m_rowMany m_charAt m_charWide m_trail m_isMatch m_matchGroups m_allFrom m_allBefore m_founds m_pieces m_writtenMany m_templateWide m_tooMuch)) := ⟨_, rfl⟩
    have h139 := h139.keep h80 eG7 (by decide)
    have h134 := h134.keep h80 eG7 (by decide)
    have h135 := h135.keep h80 eG7 (by decide)
    have h136 := h136.keep h80 eG7 (by decide)
    have h137 := h137.keep h80 eG7 (by decide)
    have h144 := h144.keep h80 eG7 (by decide)
    have h138 := h138.keep h80 eG7 (by decide)
    have h142 := h142.keep h80 eG7 (by decide)
    have h143 := h143.keep h80 eG7 (by decide)
    have h140 := h140.keep h80 eG7 (by decide)
    have h141 := h141.keep h80 eG7 (by decide)
    have h112 := h112.keep h80 eG7 (by decide)
    have h114 := h114.keep h80 eG7 (by decide)
    have h116 := h116.keep h80 eG7 (by decide)
    have h118 := h118.keep h80 eG7 (by decide)
    have h119 := h119.keep h80 eG7 (by decide)
    have h120 := h120.keep h80 eG7 (by decide)
    have h121 := h121.keep h80 eG7 (by decide)
    have h122 := h122.keep h80 eG7 (by decide)
    have h123 := h123.keep h80 eG7 (by decide)
    have h124 := h124.keep h80 eG7 (by decide)
    have h85 := h85.keep h80 eG7 (by decide)
    have h117 := h117.keep h80 eG7 (by decide)
    have h113 := h113.keep h80 eG7 (by decide)
    have hlen := (z_len eG7).trans hlen
    have hsl := (z_sl h80 eG7 rfl).trans hsl
    have hfr := hfr.wr h80 eG7 (by decide)
    have h80 := h80.kept eG7
    change ab_W _ _ _ (List.set G 80 (ab_ob 12 (mof 1 m_taped m_length m_out m_wide m_gathered m_sets m_ranges m_nodes m_at m_flags m_fault m_place m_numbered m_depth m_value m_isNot m_least0 m_most0 m_slot m_work m_got m_rowMany m_charAt m_charWide m_trail m_isMatch m_matchGroups m_allFrom m_allBefore m_founds m_pieces m_writtenMany m_templateWide m_tooMuch))) 49 [some (vR 80), some (vz s), some (vz how), some (vz mc), some (vz fm), none] [] _
    rw [← eG7]
    refine ab_aload_n d_MO_match_49 rfl ?_
    refine ab_getf (fs := mof 1 m_taped m_length m_out m_wide m_gathered m_sets m_ranges m_nodes m_at m_flags m_fault m_place m_numbered m_depth m_value m_isNot m_least0 m_most0 m_slot m_work m_got m_rowMany m_charAt m_charWide m_trail m_isMatch m_matchGroups m_allFrom m_allBefore m_founds m_pieces m_writtenMany m_templateWide m_tooMuch) f_MO_220 d_MO_match_50 h80.2.2 rfl ?_
    refine zz_if_le (tgt := 58) d_MO_match_53 (by decide) (by decide) (fun c8 => absurd c8 (by decide)) (fun c8 => ?_)
    refine zz_iconst d_MO_match_56 ?_
    refine zz_iret rfl d_MO_match_57 ?_
    rw [hQ]; exact ⟨_, _, _, _, _, _, _, _, _, _, _, _, _, _, _, _, _, _, _, rfl, hfr, hlen, hsl, h80, h135, h136, h137, h144, h138, h142, h143, h140, h141, h134, h139, (by first | exact jn | exact rgs_w jn (by omega)), (by first | exact jse | exact rgs_w jse (by omega)), (by first | exact jsp | exact rgs_w jsp (by omega)), (by first | exact jpt | exact rgs_w jpt (by omega)), (by first | exact jts | exact rgs_w jts (by omega)), (by first | exact jto | exact rgs_w jto (by omega)), (by first | exact jke | exact rgs_w jke (by omega)), (by omega), (by exact Or.inr ⟨rfl, by first | exact Or.inr (fun q => by omega) | exact Or.inl (hq5 (by omega)), rfl, rfl, rfl, rfl⟩)⟩
  · refine ab_iload_n d_MO_match_9 rfl ?_
    refine zz_if_lt (tgt := 41) d_MO_match_10 (by decide) (by omega) (fun c9 => ?_) (fun c9 => ?_)
    · refine zz_iconst d_MO_match_41 ?_
      refine ab_goto (tgt := 46) d_MO_match_42 (by decide) ?_
      refine ab_putf (fs := mof m_thrown m_taped m_length m_out m_wide m_gathered m_sets m_ranges m_nodes m_at m_flags m_fault m_place m_numbered m_depth m_value m_isNot m_least0 m_most0 m_slot m_work m_got m_rowMany m_charAt m_charWide m_trail m_isMatch m_matchGroups m_allFrom m_allBefore m_founds m_pieces m_writtenMany m_templateWide m_tooMuch) f_MO_220 (Or.inl rfl) d_MO_match_46 h80.2.2 (Nat.le_of_ble_eq_true rfl) (fun _ => ⟨rfl, rfl⟩) (h80.2.1 (by decide)) ?_
      obtain ⟨G10, eG10⟩ : ∃ z : ab_G, z = List.set G 80 (ab_ob 12 (mof 1 m_taped m_length m_out m_wide m_gathered m_sets m_ranges m_nodes m_at m_flags m_fault m_place m_numbered m_depth m_value m_isNot m_least0 m_most0 m_slot m_work m_got m_rowMany m_charAt m_charWide m_trail m_isMatch m_matchGroups m_allFrom m_allBefore m_founds m_pieces m_writtenMany m_templateWide m_tooMuch)) := ⟨_, rfl⟩
      have h139 := h139.keep h80 eG10 (by decide)
      have h134 := h134.keep h80 eG10 (by decide)
      have h135 := h135.keep h80 eG10 (by decide)
      have h136 := h136.keep h80 eG10 (by decide)
      have h137 := h137.keep h80 eG10 (by decide)
      have h144 := h144.keep h80 eG10 (by decide)
      have h138 := h138.keep h80 eG10 (by decide)
      have h142 := h142.keep h80 eG10 (by decide)
      have h143 := h143.keep h80 eG10 (by decide)
      have h140 := h140.keep h80 eG10 (by decide)
      have h141 := h141.keep h80 eG10 (by decide)
      have h112 := h112.keep h80 eG10 (by decide)
      have h114 := h114.keep h80 eG10 (by decide)
      have h116 := h116.keep h80 eG10 (by decide)
      have h118 := h118.keep h80 eG10 (by decide)
      have h119 := h119.keep h80 eG10 (by decide)
      have h120 := h120.keep h80 eG10 (by decide)
      have h121 := h121.keep h80 eG10 (by decide)
      have h122 := h122.keep h80 eG10 (by decide)
      have h123 := h123.keep h80 eG10 (by decide)
      have h124 := h124.keep h80 eG10 (by decide)
      have h85 := h85.keep h80 eG10 (by decide)
      have h117 := h117.keep h80 eG10 (by decide)
      have h113 := h113.keep h80 eG10 (by decide)
      have hlen := (z_len eG10).trans hlen
      have hsl := (z_sl h80 eG10 rfl).trans hsl
      have hfr := hfr.wr h80 eG10 (by decide)
      have h80 := h80.kept eG10
      change ab_W _ _ _ (List.set G 80 (ab_ob 12 (mof 1 m_taped m_length m_out m_wide m_gathered m_sets m_ranges m_nodes m_at m_flags m_fault m_place m_numbered m_depth m_value m_isNot m_least0 m_most0 m_slot m_work m_got m_rowMany m_charAt m_charWide m_trail m_isMatch m_matchGroups m_allFrom m_allBefore m_founds m_pieces m_writtenMany m_templateWide m_tooMuch))) 49 [some (vR 80), some (vz s), some (vz how), some (vz mc), some (vz fm), none] [] _
      rw [← eG10]
      refine ab_aload_n d_MO_match_49 rfl ?_
      refine ab_getf (fs := mof 1 m_taped m_length m_out m_wide m_gathered m_sets m_ranges m_nodes m_at m_flags m_fault m_place m_numbered m_depth m_value m_isNot m_least0 m_most0 m_slot m_work m_got m_rowMany m_charAt m_charWide m_trail m_isMatch m_matchGroups m_allFrom m_allBefore m_founds m_pieces m_writtenMany m_templateWide m_tooMuch) f_MO_220 d_MO_match_50 h80.2.2 rfl ?_
      refine zz_if_le (tgt := 58) d_MO_match_53 (by decide) (by decide) (fun c11 => absurd c11 (by decide)) (fun c11 => ?_)
      refine zz_iconst d_MO_match_56 ?_
      refine zz_iret rfl d_MO_match_57 ?_
      rw [hQ]; exact ⟨_, _, _, _, _, _, _, _, _, _, _, _, _, _, _, _, _, _, _, rfl, hfr, hlen, hsl, h80, h135, h136, h137, h144, h138, h142, h143, h140, h141, h134, h139, (by first | exact jn | exact rgs_w jn (by omega)), (by first | exact jse | exact rgs_w jse (by omega)), (by first | exact jsp | exact rgs_w jsp (by omega)), (by first | exact jpt | exact rgs_w jpt (by omega)), (by first | exact jts | exact rgs_w jts (by omega)), (by first | exact jto | exact rgs_w jto (by omega)), (by first | exact jke | exact rgs_w jke (by omega)), (by omega), (by exact Or.inr ⟨rfl, by first | exact Or.inr (fun q => by omega) | exact Or.inl (hq5 (by omega)), rfl, rfl, rfl, rfl⟩)⟩
    · refine ab_iload_n d_MO_match_13 rfl ?_
      refine zz_iconst d_MO_match_14 ?_
      refine zz_icmp_gt (tgt := 41) d_MO_match_15 (by decide) (by omega) (by decide) (fun c12 => ?_) (fun c12 => ?_)
      · refine zz_iconst d_MO_match_41 ?_
        refine ab_goto (tgt := 46) d_MO_match_42 (by decide) ?_
        refine ab_putf (fs := mof m_thrown m_taped m_length m_out m_wide m_gathered m_sets m_ranges m_nodes m_at m_flags m_fault m_place m_numbered m_depth m_value m_isNot m_least0 m_most0 m_slot m_work m_got m_rowMany m_charAt m_charWide m_trail m_isMatch m_matchGroups m_allFrom m_allBefore m_founds m_pieces m_writtenMany m_templateWide m_tooMuch) f_MO_220 (Or.inl rfl) d_MO_match_46 h80.2.2 (Nat.le_of_ble_eq_true rfl) (fun _ => ⟨rfl, rfl⟩) (h80.2.1 (by decide)) ?_
        obtain ⟨G13, eG13⟩ : ∃ z : ab_G, z = List.set G 80 (ab_ob 12 (mof 1 m_taped m_length m_out m_wide m_gathered m_sets m_ranges m_nodes m_at m_flags m_fault m_place m_numbered m_depth m_value m_isNot m_least0 m_most0 m_slot m_work m_got m_rowMany m_charAt m_charWide m_trail m_isMatch m_matchGroups m_allFrom m_allBefore m_founds m_pieces m_writtenMany m_templateWide m_tooMuch)) := ⟨_, rfl⟩
        have h139 := h139.keep h80 eG13 (by decide)
        have h134 := h134.keep h80 eG13 (by decide)
        have h135 := h135.keep h80 eG13 (by decide)
        have h136 := h136.keep h80 eG13 (by decide)
        have h137 := h137.keep h80 eG13 (by decide)
        have h144 := h144.keep h80 eG13 (by decide)
        have h138 := h138.keep h80 eG13 (by decide)
        have h142 := h142.keep h80 eG13 (by decide)
        have h143 := h143.keep h80 eG13 (by decide)
        have h140 := h140.keep h80 eG13 (by decide)
        have h141 := h141.keep h80 eG13 (by decide)
        have h112 := h112.keep h80 eG13 (by decide)
        have h114 := h114.keep h80 eG13 (by decide)
        have h116 := h116.keep h80 eG13 (by decide)
        have h118 := h118.keep h80 eG13 (by decide)
        have h119 := h119.keep h80 eG13 (by decide)
        have h120 := h120.keep h80 eG13 (by decide)
        have h121 := h121.keep h80 eG13 (by decide)
        have h122 := h122.keep h80 eG13 (by decide)
        have h123 := h123.keep h80 eG13 (by decide)
        have h124 := h124.keep h80 eG13 (by decide)
        have h85 := h85.keep h80 eG13 (by decide)
        have h117 := h117.keep h80 eG13 (by decide)
        have h113 := h113.keep h80 eG13 (by decide)
        have hlen := (z_len eG13).trans hlen
        have hsl := (z_sl h80 eG13 rfl).trans hsl
        have hfr := hfr.wr h80 eG13 (by decide)
        have h80 := h80.kept eG13
        change ab_W _ _ _ (List.set G 80 (ab_ob 12 (mof 1 m_taped m_length m_out m_wide m_gathered m_sets m_ranges m_nodes m_at m_flags m_fault m_place m_numbered m_depth m_value m_isNot m_least0 m_most0 m_slot m_work m_got m_rowMany m_charAt m_charWide m_trail m_isMatch m_matchGroups m_allFrom m_allBefore m_founds m_pieces m_writtenMany m_templateWide m_tooMuch))) 49 [some (vR 80), some (vz s), some (vz how), some (vz mc), some (vz fm), none] [] _
        rw [← eG13]
        refine ab_aload_n d_MO_match_49 rfl ?_
        refine ab_getf (fs := mof 1 m_taped m_length m_out m_wide m_gathered m_sets m_ranges m_nodes m_at m_flags m_fault m_place m_numbered m_depth m_value m_isNot m_least0 m_most0 m_slot m_work m_got m_rowMany m_charAt m_charWide m_trail m_isMatch m_matchGroups m_allFrom m_allBefore m_founds m_pieces m_writtenMany m_templateWide m_tooMuch) f_MO_220 d_MO_match_50 h80.2.2 rfl ?_
        refine zz_if_le (tgt := 58) d_MO_match_53 (by decide) (by decide) (fun c14 => absurd c14 (by decide)) (fun c14 => ?_)
        refine zz_iconst d_MO_match_56 ?_
        refine zz_iret rfl d_MO_match_57 ?_
        rw [hQ]; exact ⟨_, _, _, _, _, _, _, _, _, _, _, _, _, _, _, _, _, _, _, rfl, hfr, hlen, hsl, h80, h135, h136, h137, h144, h138, h142, h143, h140, h141, h134, h139, (by first | exact jn | exact rgs_w jn (by omega)), (by first | exact jse | exact rgs_w jse (by omega)), (by first | exact jsp | exact rgs_w jsp (by omega)), (by first | exact jpt | exact rgs_w jpt (by omega)), (by first | exact jts | exact rgs_w jts (by omega)), (by first | exact jto | exact rgs_w jto (by omega)), (by first | exact jke | exact rgs_w jke (by omega)), (by omega), (by exact Or.inr ⟨rfl, by first | exact Or.inr (fun q => by omega) | exact Or.inl (hq5 (by omega)), rfl, rfl, rfl, rfl⟩)⟩
      · refine ab_iload_n d_MO_match_18 rfl ?_
        refine zz_if_lt (tgt := 41) d_MO_match_19 (by decide) (by omega) (fun c15 => ?_) (fun c15 => ?_)
        · refine zz_iconst d_MO_match_41 ?_
          refine ab_goto (tgt := 46) d_MO_match_42 (by decide) ?_
          refine ab_putf (fs := mof m_thrown m_taped m_length m_out m_wide m_gathered m_sets m_ranges m_nodes m_at m_flags m_fault m_place m_numbered m_depth m_value m_isNot m_least0 m_most0 m_slot m_work m_got m_rowMany m_charAt m_charWide m_trail m_isMatch m_matchGroups m_allFrom m_allBefore m_founds m_pieces m_writtenMany m_templateWide m_tooMuch) f_MO_220 (Or.inl rfl) d_MO_match_46 h80.2.2 (Nat.le_of_ble_eq_true rfl) (fun _ => ⟨rfl, rfl⟩) (h80.2.1 (by decide)) ?_
          obtain ⟨G16, eG16⟩ : ∃ z : ab_G, z = List.set G 80 (ab_ob 12 (mof 1 m_taped m_length m_out m_wide m_gathered m_sets m_ranges m_nodes m_at m_flags m_fault m_place m_numbered m_depth m_value m_isNot m_least0 m_most0 m_slot m_work m_got m_rowMany m_charAt m_charWide m_trail m_isMatch m_matchGroups m_allFrom m_allBefore m_founds m_pieces m_writtenMany m_templateWide m_tooMuch)) := ⟨_, rfl⟩
          have h139 := h139.keep h80 eG16 (by decide)
          have h134 := h134.keep h80 eG16 (by decide)
          have h135 := h135.keep h80 eG16 (by decide)
          have h136 := h136.keep h80 eG16 (by decide)
          have h137 := h137.keep h80 eG16 (by decide)
          have h144 := h144.keep h80 eG16 (by decide)
          have h138 := h138.keep h80 eG16 (by decide)
          have h142 := h142.keep h80 eG16 (by decide)
          have h143 := h143.keep h80 eG16 (by decide)
          have h140 := h140.keep h80 eG16 (by decide)
          have h141 := h141.keep h80 eG16 (by decide)
          have h112 := h112.keep h80 eG16 (by decide)
          have h114 := h114.keep h80 eG16 (by decide)
          have h116 := h116.keep h80 eG16 (by decide)
          have h118 := h118.keep h80 eG16 (by decide)
          have h119 := h119.keep h80 eG16 (by decide)
          have h120 := h120.keep h80 eG16 (by decide)
          have h121 := h121.keep h80 eG16 (by decide)
          have h122 := h122.keep h80 eG16 (by decide)
          have h123 := h123.keep h80 eG16 (by decide)
          have h124 := h124.keep h80 eG16 (by decide)
          have h85 := h85.keep h80 eG16 (by decide)
          have h117 := h117.keep h80 eG16 (by decide)
          have h113 := h113.keep h80 eG16 (by decide)
          have hlen := (z_len eG16).trans hlen
          have hsl := (z_sl h80 eG16 rfl).trans hsl
          have hfr := hfr.wr h80 eG16 (by decide)
          have h80 := h80.kept eG16
          change ab_W _ _ _ (List.set G 80 (ab_ob 12 (mof 1 m_taped m_length m_out m_wide m_gathered m_sets m_ranges m_nodes m_at m_flags m_fault m_place m_numbered m_depth m_value m_isNot m_least0 m_most0 m_slot m_work m_got m_rowMany m_charAt m_charWide m_trail m_isMatch m_matchGroups m_allFrom m_allBefore m_founds m_pieces m_writtenMany m_templateWide m_tooMuch))) 49 [some (vR 80), some (vz s), some (vz how), some (vz mc), some (vz fm), none] [] _
          rw [← eG16]
          refine ab_aload_n d_MO_match_49 rfl ?_
          refine ab_getf (fs := mof 1 m_taped m_length m_out m_wide m_gathered m_sets m_ranges m_nodes m_at m_flags m_fault m_place m_numbered m_depth m_value m_isNot m_least0 m_most0 m_slot m_work m_got m_rowMany m_charAt m_charWide m_trail m_isMatch m_matchGroups m_allFrom m_allBefore m_founds m_pieces m_writtenMany m_templateWide m_tooMuch) f_MO_220 d_MO_match_50 h80.2.2 rfl ?_
          refine zz_if_le (tgt := 58) d_MO_match_53 (by decide) (by decide) (fun c17 => absurd c17 (by decide)) (fun c17 => ?_)
          refine zz_iconst d_MO_match_56 ?_
          refine zz_iret rfl d_MO_match_57 ?_
          rw [hQ]; exact ⟨_, _, _, _, _, _, _, _, _, _, _, _, _, _, _, _, _, _, _, rfl, hfr, hlen, hsl, h80, h135, h136, h137, h144, h138, h142, h143, h140, h141, h134, h139, (by first | exact jn | exact rgs_w jn (by omega)), (by first | exact jse | exact rgs_w jse (by omega)), (by first | exact jsp | exact rgs_w jsp (by omega)), (by first | exact jpt | exact rgs_w jpt (by omega)), (by first | exact jts | exact rgs_w jts (by omega)), (by first | exact jto | exact rgs_w jto (by omega)), (by first | exact jke | exact rgs_w jke (by omega)), (by omega), (by exact Or.inr ⟨rfl, by first | exact Or.inr (fun q => by omega) | exact Or.inl (hq5 (by omega)), rfl, rfl, rfl, rfl⟩)⟩
        · refine ab_iload_n d_MO_match_22 rfl ?_
          refine zz_iconst d_MO_match_23 ?_
          refine zz_icmp_gt (tgt := 41) d_MO_match_24 (by decide) (by omega) (by decide) (fun c18 => ?_) (fun c18 => ?_)
          · refine zz_iconst d_MO_match_41 ?_
            refine ab_goto (tgt := 46) d_MO_match_42 (by decide) ?_
            refine ab_putf (fs := mof m_thrown m_taped m_length m_out m_wide m_gathered m_sets m_ranges m_nodes m_at m_flags m_fault m_place m_numbered m_depth m_value m_isNot m_least0 m_most0 m_slot m_work m_got m_rowMany m_charAt m_charWide m_trail m_isMatch m_matchGroups m_allFrom m_allBefore m_founds m_pieces m_writtenMany m_templateWide m_tooMuch) f_MO_220 (Or.inl rfl) d_MO_match_46 h80.2.2 (Nat.le_of_ble_eq_true rfl) (fun _ => ⟨rfl, rfl⟩) (h80.2.1 (by decide)) ?_
            obtain ⟨G19, eG19⟩ : ∃ z : ab_G, z = List.set G 80 (ab_ob 12 (mof 1 m_taped m_length m_out m_wide m_gathered m_sets m_ranges m_nodes m_at m_flags m_fault m_place m_numbered m_depth m_value m_isNot m_least0 m_most0 m_slot m_work m_got m_rowMany m_charAt m_charWide m_trail m_isMatch m_matchGroups m_allFrom m_allBefore m_founds m_pieces m_writtenMany m_templateWide m_tooMuch)) := ⟨_, rfl⟩
            have h139 := h139.keep h80 eG19 (by decide)
            have h134 := h134.keep h80 eG19 (by decide)
            have h135 := h135.keep h80 eG19 (by decide)
            have h136 := h136.keep h80 eG19 (by decide)
            have h137 := h137.keep h80 eG19 (by decide)
            have h144 := h144.keep h80 eG19 (by decide)
            have h138 := h138.keep h80 eG19 (by decide)
            have h142 := h142.keep h80 eG19 (by decide)
            have h143 := h143.keep h80 eG19 (by decide)
            have h140 := h140.keep h80 eG19 (by decide)
            have h141 := h141.keep h80 eG19 (by decide)
            have h112 := h112.keep h80 eG19 (by decide)
            have h114 := h114.keep h80 eG19 (by decide)
            have h116 := h116.keep h80 eG19 (by decide)
            have h118 := h118.keep h80 eG19 (by decide)
            have h119 := h119.keep h80 eG19 (by decide)
            have h120 := h120.keep h80 eG19 (by decide)
            have h121 := h121.keep h80 eG19 (by decide)
            have h122 := h122.keep h80 eG19 (by decide)
            have h123 := h123.keep h80 eG19 (by decide)
            have h124 := h124.keep h80 eG19 (by decide)
            have h85 := h85.keep h80 eG19 (by decide)
            have h117 := h117.keep h80 eG19 (by decide)
            have h113 := h113.keep h80 eG19 (by decide)
            have hlen := (z_len eG19).trans hlen
            have hsl := (z_sl h80 eG19 rfl).trans hsl
            have hfr := hfr.wr h80 eG19 (by decide)
            have h80 := h80.kept eG19
            change ab_W _ _ _ (List.set G 80 (ab_ob 12 (mof 1 m_taped m_length m_out m_wide m_gathered m_sets m_ranges m_nodes m_at m_flags m_fault m_place m_numbered m_depth m_value m_isNot m_least0 m_most0 m_slot m_work m_got m_rowMany m_charAt m_charWide m_trail m_isMatch m_matchGroups m_allFrom m_allBefore m_founds m_pieces m_writtenMany m_templateWide m_tooMuch))) 49 [some (vR 80), some (vz s), some (vz how), some (vz mc), some (vz fm), none] [] _
            rw [← eG19]
            refine ab_aload_n d_MO_match_49 rfl ?_
            refine ab_getf (fs := mof 1 m_taped m_length m_out m_wide m_gathered m_sets m_ranges m_nodes m_at m_flags m_fault m_place m_numbered m_depth m_value m_isNot m_least0 m_most0 m_slot m_work m_got m_rowMany m_charAt m_charWide m_trail m_isMatch m_matchGroups m_allFrom m_allBefore m_founds m_pieces m_writtenMany m_templateWide m_tooMuch) f_MO_220 d_MO_match_50 h80.2.2 rfl ?_
            refine zz_if_le (tgt := 58) d_MO_match_53 (by decide) (by decide) (fun c20 => absurd c20 (by decide)) (fun c20 => ?_)
            refine zz_iconst d_MO_match_56 ?_
            refine zz_iret rfl d_MO_match_57 ?_
            rw [hQ]; exact ⟨_, _, _, _, _, _, _, _, _, _, _, _, _, _, _, _, _, _, _, rfl, hfr, hlen, hsl, h80, h135, h136, h137, h144, h138, h142, h143, h140, h141, h134, h139, (by first | exact jn | exact rgs_w jn (by omega)), (by first | exact jse | exact rgs_w jse (by omega)), (by first | exact jsp | exact rgs_w jsp (by omega)), (by first | exact jpt | exact rgs_w jpt (by omega)), (by first | exact jts | exact rgs_w jts (by omega)), (by first | exact jto | exact rgs_w jto (by omega)), (by first | exact jke | exact rgs_w jke (by omega)), (by omega), (by exact Or.inr ⟨rfl, by first | exact Or.inr (fun q => by omega) | exact Or.inl (hq5 (by omega)), rfl, rfl, rfl, rfl⟩)⟩
          · refine ab_iload d_MO_match_27 rfl ?_
            refine zz_if_lt (tgt := 41) d_MO_match_29 (by decide) (by omega) (fun c21 => ?_) (fun c21 => ?_)
            · refine zz_iconst d_MO_match_41 ?_
              refine ab_goto (tgt := 46) d_MO_match_42 (by decide) ?_
              refine ab_putf (fs := mof m_thrown m_taped m_length m_out m_wide m_gathered m_sets m_ranges m_nodes m_at m_flags m_fault m_place m_numbered m_depth m_value m_isNot m_least0 m_most0 m_slot m_work m_got m_rowMany m_charAt m_charWide m_trail m_isMatch m_matchGroups m_allFrom m_allBefore m_founds m_pieces m_writtenMany m_templateWide m_tooMuch) f_MO_220 (Or.inl rfl) d_MO_match_46 h80.2.2 (Nat.le_of_ble_eq_true rfl) (fun _ => ⟨rfl, rfl⟩) (h80.2.1 (by decide)) ?_
              obtain ⟨G22, eG22⟩ : ∃ z : ab_G, z = List.set G 80 (ab_ob 12 (mof 1 m_taped m_length m_out m_wide m_gathered m_sets m_ranges m_nodes m_at m_flags m_fault m_place m_numbered m_depth m_value m_isNot m_least0 m_most0 m_slot m_work m_got m_rowMany m_charAt m_charWide m_trail m_isMatch m_matchGroups m_allFrom m_allBefore m_founds m_pieces m_writtenMany m_templateWide m_tooMuch)) := ⟨_, rfl⟩
              have h139 := h139.keep h80 eG22 (by decide)
              have h134 := h134.keep h80 eG22 (by decide)
              have h135 := h135.keep h80 eG22 (by decide)
              have h136 := h136.keep h80 eG22 (by decide)
              have h137 := h137.keep h80 eG22 (by decide)
              have h144 := h144.keep h80 eG22 (by decide)
              have h138 := h138.keep h80 eG22 (by decide)
              have h142 := h142.keep h80 eG22 (by decide)
              have h143 := h143.keep h80 eG22 (by decide)
              have h140 := h140.keep h80 eG22 (by decide)
              have h141 := h141.keep h80 eG22 (by decide)
              have h112 := h112.keep h80 eG22 (by decide)
              have h114 := h114.keep h80 eG22 (by decide)
              have h116 := h116.keep h80 eG22 (by decide)
              have h118 := h118.keep h80 eG22 (by decide)
              have h119 := h119.keep h80 eG22 (by decide)
              have h120 := h120.keep h80 eG22 (by decide)
              have h121 := h121.keep h80 eG22 (by decide)
              have h122 := h122.keep h80 eG22 (by decide)
              have h123 := h123.keep h80 eG22 (by decide)
              have h124 := h124.keep h80 eG22 (by decide)
              have h85 := h85.keep h80 eG22 (by decide)
              have h117 := h117.keep h80 eG22 (by decide)
              have h113 := h113.keep h80 eG22 (by decide)
              have hlen := (z_len eG22).trans hlen
              have hsl := (z_sl h80 eG22 rfl).trans hsl
              have hfr := hfr.wr h80 eG22 (by decide)
              have h80 := h80.kept eG22
              change ab_W _ _ _ (List.set G 80 (ab_ob 12 (mof 1 m_taped m_length m_out m_wide m_gathered m_sets m_ranges m_nodes m_at m_flags m_fault m_place m_numbered m_depth m_value m_isNot m_least0 m_most0 m_slot m_work m_got m_rowMany m_charAt m_charWide m_trail m_isMatch m_matchGroups m_allFrom m_allBefore m_founds m_pieces m_writtenMany m_templateWide m_tooMuch))) 49 [some (vR 80), some (vz s), some (vz how), some (vz mc), some (vz fm), none] [] _
              rw [← eG22]
              refine ab_aload_n d_MO_match_49 rfl ?_
              refine ab_getf (fs := mof 1 m_taped m_length m_out m_wide m_gathered m_sets m_ranges m_nodes m_at m_flags m_fault m_place m_numbered m_depth m_value m_isNot m_least0 m_most0 m_slot m_work m_got m_rowMany m_charAt m_charWide m_trail m_isMatch m_matchGroups m_allFrom m_allBefore m_founds m_pieces m_writtenMany m_templateWide m_tooMuch) f_MO_220 d_MO_match_50 h80.2.2 rfl ?_
              refine zz_if_le (tgt := 58) d_MO_match_53 (by decide) (by decide) (fun c23 => absurd c23 (by decide)) (fun c23 => ?_)
              refine zz_iconst d_MO_match_56 ?_
              refine zz_iret rfl d_MO_match_57 ?_
              rw [hQ]; exact ⟨_, _, _, _, _, _, _, _, _, _, _, _, _, _, _, _, _, _, _, rfl, hfr, hlen, hsl, h80, h135, h136, h137, h144, h138, h142, h143, h140, h141, h134, h139, (by first | exact jn | exact rgs_w jn (by omega)), (by first | exact jse | exact rgs_w jse (by omega)), (by first | exact jsp | exact rgs_w jsp (by omega)), (by first | exact jpt | exact rgs_w jpt (by omega)), (by first | exact jts | exact rgs_w jts (by omega)), (by first | exact jto | exact rgs_w jto (by omega)), (by first | exact jke | exact rgs_w jke (by omega)), (by omega), (by exact Or.inr ⟨rfl, by first | exact Or.inr (fun q => by omega) | exact Or.inl (hq5 (by omega)), rfl, rfl, rfl, rfl⟩)⟩
            · refine ab_iload d_MO_match_32 rfl ?_
              refine ab_aload_n d_MO_match_34 rfl ?_
              refine ab_getf (fs := mof m_thrown m_taped m_length m_out m_wide m_gathered m_sets m_ranges m_nodes m_at m_flags m_fault m_place m_numbered m_depth m_value m_isNot m_least0 m_most0 m_slot m_work m_got m_rowMany m_charAt m_charWide m_trail m_isMatch m_matchGroups m_allFrom m_allBefore m_founds m_pieces m_writtenMany m_templateWide m_tooMuch) f_MO_510 d_MO_match_35 h80.2.2 rfl ?_
              refine zz_icmp_le (tgt := 45) d_MO_match_38 (by decide) (by omega) (by omega) (fun c24 => ?_) (fun c24 => ?_)
              · refine zz_iconst d_MO_match_45 ?_
                refine ab_putf (fs := mof m_thrown m_taped m_length m_out m_wide m_gathered m_sets m_ranges m_nodes m_at m_flags m_fault m_place m_numbered m_depth m_value m_isNot m_least0 m_most0 m_slot m_work m_got m_rowMany m_charAt m_charWide m_trail m_isMatch m_matchGroups m_allFrom m_allBefore m_founds m_pieces m_writtenMany m_templateWide m_tooMuch) f_MO_220 (Or.inl rfl) d_MO_match_46 h80.2.2 (Nat.le_of_ble_eq_true rfl) (fun _ => ⟨rfl, rfl⟩) (h80.2.1 (by decide)) ?_
                obtain ⟨G25, eG25⟩ : ∃ z : ab_G, z = List.set G 80 (ab_ob 12 (mof 0 m_taped m_length m_out m_wide m_gathered m_sets m_ranges m_nodes m_at m_flags m_fault m_place m_numbered m_depth m_value m_isNot m_least0 m_most0 m_slot m_work m_got m_rowMany m_charAt m_charWide m_trail m_isMatch m_matchGroups m_allFrom m_allBefore m_founds m_pieces m_writtenMany m_templateWide m_tooMuch)) := ⟨_, rfl⟩
                have h139 := h139.keep h80 eG25 (by decide)
                have h134 := h134.keep h80 eG25 (by decide)
                have h135 := h135.keep h80 eG25 (by decide)
                have h136 := h136.keep h80 eG25 (by decide)
                have h137 := h137.keep h80 eG25 (by decide)
                have h144 := h144.keep h80 eG25 (by decide)
                have h138 := h138.keep h80 eG25 (by decide)
                have h142 := h142.keep h80 eG25 (by decide)
                have h143 := h143.keep h80 eG25 (by decide)
                have h140 := h140.keep h80 eG25 (by decide)
                have h141 := h141.keep h80 eG25 (by decide)
                have h112 := h112.keep h80 eG25 (by decide)
                have h114 := h114.keep h80 eG25 (by decide)
                have h116 := h116.keep h80 eG25 (by decide)
                have h118 := h118.keep h80 eG25 (by decide)
                have h119 := h119.keep h80 eG25 (by decide)
                have h120 := h120.keep h80 eG25 (by decide)
                have h121 := h121.keep h80 eG25 (by decide)
                have h122 := h122.keep h80 eG25 (by decide)
                have h123 := h123.keep h80 eG25 (by decide)
                have h124 := h124.keep h80 eG25 (by decide)
                have h85 := h85.keep h80 eG25 (by decide)
                have h117 := h117.keep h80 eG25 (by decide)
                have h113 := h113.keep h80 eG25 (by decide)
                have hlen := (z_len eG25).trans hlen
                have hsl := (z_sl h80 eG25 rfl).trans hsl
                have hfr := hfr.wr h80 eG25 (by decide)
                have h80 := h80.kept eG25
                change ab_W _ _ _ (List.set G 80 (ab_ob 12 (mof 0 m_taped m_length m_out m_wide m_gathered m_sets m_ranges m_nodes m_at m_flags m_fault m_place m_numbered m_depth m_value m_isNot m_least0 m_most0 m_slot m_work m_got m_rowMany m_charAt m_charWide m_trail m_isMatch m_matchGroups m_allFrom m_allBefore m_founds m_pieces m_writtenMany m_templateWide m_tooMuch))) 49 [some (vR 80), some (vz s), some (vz how), some (vz mc), some (vz fm), none] [] _
                rw [← eG25]
                refine ab_aload_n d_MO_match_49 rfl ?_
                refine ab_getf (fs := mof 0 m_taped m_length m_out m_wide m_gathered m_sets m_ranges m_nodes m_at m_flags m_fault m_place m_numbered m_depth m_value m_isNot m_least0 m_most0 m_slot m_work m_got m_rowMany m_charAt m_charWide m_trail m_isMatch m_matchGroups m_allFrom m_allBefore m_founds m_pieces m_writtenMany m_templateWide m_tooMuch) f_MO_220 d_MO_match_50 h80.2.2 rfl ?_
                refine zz_if_le (tgt := 58) d_MO_match_53 (by decide) (by decide) (fun c26 => ?_) (fun c26 => absurd c26 (by decide))
                obtain ⟨hp1_, hp2_, hp3_, hp4_, hp5_⟩ := jpg s (by omega) (by omega) (hq4 (by omega)).2.2
                have hp6_ := jpm s (by omega) (by omega) (hq4 (by omega)).2.2
                refine ab_iload_n d_MO_match_58 rfl ?_
                refine zz_iconst d_MO_match_59 ?_
                refine zz_icmp_ne (tgt := 123) d_MO_match_60 (by decide) (by omega) (by decide) (fun c27 => ?_) (fun c27 => ?_)
                · refine ab_aload_n d_MO_match_123 rfl ?_
                  refine ab_aload_n d_MO_match_124 rfl ?_
                  refine ab_getf (fs := mof 0 m_taped m_length m_out m_wide m_gathered m_sets m_ranges m_nodes m_at m_flags m_fault m_place m_numbered m_depth m_value m_isNot m_least0 m_most0 m_slot m_work m_got m_rowMany m_charAt m_charWide m_trail m_isMatch m_matchGroups m_allFrom m_allBefore m_founds m_pieces m_writtenMany m_templateWide m_tooMuch) f_MO_178 d_MO_match_125 h80.2.2 rfl ?_
                  refine ab_iload_n d_MO_match_128 rfl ?_
                  refine ab_aload_n d_MO_match_129 rfl ?_
                  refine ab_getf (fs := mof 0 m_taped m_length m_out m_wide m_gathered m_sets m_ranges m_nodes m_at m_flags m_fault m_place m_numbered m_depth m_value m_isNot m_least0 m_most0 m_slot m_work m_got m_rowMany m_charAt m_charWide m_trail m_isMatch m_matchGroups m_allFrom m_allBefore m_founds m_pieces m_writtenMany m_templateWide m_tooMuch) f_MO_510 d_MO_match_130 h80.2.2 rfl ?_
                  refine ab_iload d_MO_match_133 rfl ?_
                  refine zz_iconst d_MO_match_135 ?_
                  refine ab_callV (d' := d - 1) (as := [vR 134, vz s, vz m_length, vz fm, vz 0]) (st := []) (r := _) (z_MO_note (o := o) (m_thrown := 0) (m_taped := m_taped) (m_length := m_length) (m_out := m_out) (m_wide := m_wide) (m_gathered := m_gathered) (m_sets := m_sets) (m_ranges := m_ranges) (m_nodes := m_nodes) (m_at := m_at) (m_flags := m_flags) (m_fault := m_fault) (m_place := m_place) (m_numbered := m_numbered) (m_depth := m_depth) (m_value := m_value) (m_isNot := m_isNot) (m_least0 := m_least0) (m_most0 := m_most0) (m_slot := m_slot) (m_work := m_work) (m_got := m_got) (m_rowMany := m_rowMany) (m_charAt := m_charAt) (m_charWide := m_charWide) (m_trail := m_trail) (m_isMatch := m_isMatch) (m_matchGroups := m_matchGroups) (m_allFrom := m_allFrom) (m_allBefore := m_allBefore) (m_founds := m_founds) (m_pieces := m_pieces) (m_writtenMany := m_writtenMany) (m_templateWide := m_templateWide) (m_tooMuch := m_tooMuch) (A_subject := A_subject) (A_stepMany := A_stepMany) (A_step := A_step) (A_next := A_next) (A_more := A_more) (A_classAt := A_classAt) (A_classMany := A_classMany) (A_classLow := A_classLow) (A_classHigh := A_classHigh) (no := 134) (lno := 334) (NO := CN) (Z := ZN) (s := s) (fr := m_length) (to := fm) (al := 0) h80 h134 h137 h118 h119 h120 h121 h122 h123 h124 h85 h117 (by omega) (by omega) (by omega) (by omega) hp5_ jst jcl jch jsb (by omega) jn (by omega)) (fun oc G2 h => by rcases h with ⟨_, _, _, _, _, h, _⟩ <;> exact ⟨_, h⟩) (by omega) m_MO_note ml_MO_559 im_MO_note se_MO_note c_MO h80.2.2 (Nat.le_of_ble_eq_true rfl) d_MO_match_136 rfl ?_
                  intro v G28 hq
                  rcases hq with ⟨NO229, Z230, w231, c232, cw233, hv, hfk, hlk, hsk, hN80, hN134, hN137, hq34, hq35, hq36⟩
                  cases hv
                  have h139 := hfk.get h139 (by decide)
                  have h135 := hfk.get h135 (by decide)
                  have h136 := hfk.get h136 (by decide)
                  have h144 := hfk.get h144 (by decide)
                  have h138 := hfk.get h138 (by decide)
                  have h142 := hfk.get h142 (by decide)
                  have h143 := hfk.get h143 (by decide)
                  have h140 := hfk.get h140 (by decide)
                  have h141 := hfk.get h141 (by decide)
                  have h112 := hfk.get h112 (by decide)
                  have h114 := hfk.get h114 (by decide)
                  have h116 := hfk.get h116 (by decide)
                  have h118 := hfk.get h118 (by decide)
                  have h119 := hfk.get h119 (by decide)
                  have h120 := hfk.get h120 (by decide)
                  have h121 := hfk.get h121 (by decide)
                  have h122 := hfk.get h122 (by decide)
                  have h123 := hfk.get h123 (by decide)
                  have h124 := hfk.get h124 (by decide)
                  have h85 := hfk.get h85 (by decide)
                  have h117 := hfk.get h117 (by decide)
                  have h113 := hfk.get h113 (by decide)
                  have hfr := hfr.tr hfk (by decide)
                  have hlen := hlk.trans hlen
                  have hsl := hsk.trans hsl
                  have h80 := hN80
                  have h134 := hN134
                  have h137 := hN137
                  change ab_W _ _ _ G28 139 [some (vR 80), some (vz s), some (vz how), some (vz mc), some (vz fm), none] [] _
                  refine ab_aload_n d_MO_match_139 rfl ?_
                  refine ab_aload_n d_MO_match_140 rfl ?_
                  refine ab_iload_n d_MO_match_141 rfl ?_
                  refine ab_iload d_MO_match_142 rfl ?_
                  refine ab_iload_n d_MO_match_144 rfl ?_
                  refine zz_if_ne (tgt := 152) d_MO_match_145 (by decide) (by omega) (fun c37 => ?_) (fun c37 => ?_)
                  · refine zz_iconst d_MO_match_152 ?_
                    refine ab_callV (d' := d - 1) (as := [vz s, vz fm, vz 0]) (st := [vR 80]) (r := _) (z_MO_find (o := o) (m_thrown := 0) (m_taped := m_taped) (m_length := m_length) (m_out := m_out) (m_wide := w231) (m_gathered := m_gathered) (m_sets := m_sets) (m_ranges := m_ranges) (m_nodes := m_nodes) (m_at := m_at) (m_flags := m_flags) (m_fault := m_fault) (m_place := m_place) (m_numbered := m_numbered) (m_depth := m_depth) (m_value := m_value) (m_isNot := m_isNot) (m_least0 := m_least0) (m_most0 := m_most0) (m_slot := m_slot) (m_work := m_work) (m_got := m_got) (m_rowMany := m_rowMany) (m_charAt := c232) (m_charWide := cw233) (m_trail := m_trail) (m_isMatch := m_isMatch) (m_matchGroups := m_matchGroups) (m_allFrom := m_allFrom) (m_allBefore := m_allBefore) (m_founds := m_founds) (m_pieces := m_pieces) (m_writtenMany := m_writtenMany) (m_templateWide := m_templateWide) (m_tooMuch := m_tooMuch) (A_flagsOf := A_flagsOf) (A_step := A_step) (A_next := A_next) (A_more := A_more) (A_classAt := A_classAt) (A_classMany := A_classMany) (A_classLow := A_classLow) (A_classHigh := A_classHigh) (A_subject := A_subject) (A_stepMany := A_stepMany) (A_entry := A_entry) (CN := NO229) (JU := JU) (CO := CO) (ZN := Z230) (ZS := ZS) (SP := SP) (PL := PL) (PT := PT) (TS := TS) (TO := TO) (s := s) (fm := fm) (sr := 0) (to := fm) (v9 := (V6 s)) (hw9 := how) h80 h134 h135 h136 h137 h144 h138 h142 h143 h140 h141 h116 h118 h119 h120 h121 h122 h123 h124 h85 h117 h113 (by omega) (by omega) (by omega) hp5_ jst jcl jch jsb (by omega) (by omega) (by omega) hq35 (ntK_of (fun k a c => jsb k a (by omega)) hp5_ hq35 hq36 (by omega) (by omega)) hp6_ hq34 jse jsp jpt jts jto (by omega)) (fun oc G2 h => by rcases h with ⟨_, _, _, _, _, _, _, _, _, _, _, _, _, h, _⟩ | ⟨_, _, _, _, _, _, _, _, _, _, _, _, _, h, _⟩ <;> exact ⟨_, h⟩) (by omega) m_MO_find ml_MO_566 im_MO_find se_MO_find c_MO h80.2.2 (Nat.le_of_ble_eq_true rfl) d_MO_match_153 rfl ?_
                    intro v G38 hq
                    rcases hq with ⟨w239, c240, cw241, t242, JU243, CO244, ZN245, ZS246, SP247, PL248, PT249, TS250, TO251, hv, hfk, hlk, hsk, hN80, hN135, hN136, hN137, hN144, hN138, hN142, hN143, hN140, hN141, hq52, hq53, hq54, hq55, hq56, hq57, hq58, hq59⟩ | ⟨w260, c261, cw262, t263, JU264, CO265, ZN266, ZS267, SP268, PL269, PT270, TS271, TO272, hv, hfk, hlk, hsk, hN80, hN135, hN136, hN137, hN144, hN138, hN142, hN143, hN140, hN141, hq73, hq74, hq75, hq76, hq77, hq78, hq79⟩
                    · cases hv
                      have h139 := hfk.get h139 (by decide)
                      have h134 := hfk.get h134 (by decide)
                      have h112 := hfk.get h112 (by decide)
                      have h114 := hfk.get h114 (by decide)
                      have h116 := hfk.get h116 (by decide)
                      have h118 := hfk.get h118 (by decide)
                      have h119 := hfk.get h119 (by decide)
                      have h120 := hfk.get h120 (by decide)
                      have h121 := hfk.get h121 (by decide)
                      have h122 := hfk.get h122 (by decide)
                      have h123 := hfk.get h123 (by decide)
                      have h124 := hfk.get h124 (by decide)
                      have h85 := hfk.get h85 (by decide)
                      have h117 := hfk.get h117 (by decide)
                      have h113 := hfk.get h113 (by decide)
                      have hfr := hfr.tr hfk (by decide)
                      have hlen := hlk.trans hlen
                      have hsl := hsk.trans hsl
                      have h80 := hN80
                      have h135 := hN135
                      have h136 := hN136
                      have h137 := hN137
                      have h144 := hN144
                      have h138 := hN138
                      have h142 := hN142
                      have h143 := hN143
                      have h140 := hN140
                      have h141 := hN141
                      change ab_W _ _ _ G38 156 [some (vR 80), some (vz s), some (vz how), some (vz mc), some (vz fm), none] [vz 1, vR 80] _
                      refine ab_putf (fs := mof 0 m_taped m_length m_out w239 m_gathered m_sets m_ranges m_nodes m_at m_flags m_fault m_place m_numbered m_depth m_value m_isNot m_least0 m_most0 m_slot m_work m_got m_rowMany c240 cw241 t242 m_isMatch m_matchGroups m_allFrom m_allBefore m_founds m_pieces m_writtenMany m_templateWide m_tooMuch) f_MO_563 (Or.inl rfl) d_MO_match_156 h80.2.2 (Nat.le_of_ble_eq_true rfl) (ab_fbz (by decide)) (h80.2.1 (by decide)) ?_
                      obtain ⟨G80, eG80⟩ : ∃ z : ab_G, z = List.set G38 80 (ab_ob 12 (mof 0 m_taped m_length m_out w239 m_gathered m_sets m_ranges m_nodes m_at m_flags m_fault m_place m_numbered m_depth m_value m_isNot m_least0 m_most0 m_slot m_work m_got m_rowMany c240 cw241 t242 1 m_matchGroups m_allFrom m_allBefore m_founds m_pieces m_writtenMany m_templateWide m_tooMuch)) := ⟨_, rfl⟩
                      have h139 := h139.keep h80 eG80 (by decide)
                      have h134 := h134.keep h80 eG80 (by decide)
                      have h135 := h135.keep h80 eG80 (by decide)
                      have h136 := h136.keep h80 eG80 (by decide)
                      have h137 := h137.keep h80 eG80 (by decide)
                      have h144 := h144.keep h80 eG80 (by decide)
                      have h138 := h138.keep h80 eG80 (by decide)
                      have h142 := h142.keep h80 eG80 (by decide)
                      have h143 := h143.keep h80 eG80 (by decide)
                      have h140 := h140.keep h80 eG80 (by decide)
                      have h141 := h141.keep h80 eG80 (by decide)
                      have h112 := h112.keep h80 eG80 (by decide)
                      have h114 := h114.keep h80 eG80 (by decide)
                      have h116 := h116.keep h80 eG80 (by decide)
                      have h118 := h118.keep h80 eG80 (by decide)
                      have h119 := h119.keep h80 eG80 (by decide)
                      have h120 := h120.keep h80 eG80 (by decide)
                      have h121 := h121.keep h80 eG80 (by decide)
                      have h122 := h122.keep h80 eG80 (by decide)
                      have h123 := h123.keep h80 eG80 (by decide)
                      have h124 := h124.keep h80 eG80 (by decide)
                      have h85 := h85.keep h80 eG80 (by decide)
                      have h117 := h117.keep h80 eG80 (by decide)
                      have h113 := h113.keep h80 eG80 (by decide)
                      have hlen := (z_len eG80).trans hlen
                      have hsl := (z_sl h80 eG80 rfl).trans hsl
                      have hfr := hfr.wr h80 eG80 (by decide)
                      have h80 := h80.kept eG80
                      change ab_W _ _ _ (List.set G38 80 (ab_ob 12 (mof 0 m_taped m_length m_out w239 m_gathered m_sets m_ranges m_nodes m_at m_flags m_fault m_place m_numbered m_depth m_value m_isNot m_least0 m_most0 m_slot m_work m_got m_rowMany c240 cw241 t242 1 m_matchGroups m_allFrom m_allBefore m_founds m_pieces m_writtenMany m_templateWide m_tooMuch))) 159 [some (vR 80), some (vz s), some (vz how), some (vz mc), some (vz fm), none] [] _
                      rw [← eG80]
                      refine zz_iconst d_MO_match_159 ?_
                      refine ab_istore d_MO_match_160 (Nat.le_of_ble_eq_true rfl) (Nat.le_of_ble_eq_true rfl) rfl ?_
                      change ab_W _ _ _ G80 162 [some (vR 80), some (vz s), some (vz how), some (vz mc), some (vz fm), some (vz 0)] [] _
                      refine ab_less (L' := [some (vR 80), some (vz s), none, none, none, some (vz 0)]) (fun i v h => by rcases i with _ | _ | _ | _ | _ | _ | i <;> first | exact h | (simp at h)) ?_
                      refine y_MO_match_162 (m_thrown := 0) (m_taped := m_taped) (m_length := m_length) (m_out := m_out) (m_wide := w239) (m_gathered := m_gathered) (m_sets := m_sets) (m_ranges := m_ranges) (m_nodes := m_nodes) (m_at := m_at) (m_flags := m_flags) (m_fault := m_fault) (m_place := m_place) (m_numbered := m_numbered) (m_depth := m_depth) (m_value := m_value) (m_isNot := m_isNot) (m_least0 := m_least0) (m_most0 := m_most0) (m_slot := m_slot) (m_work := m_work) (m_got := m_got) (m_rowMany := m_rowMany) (m_charAt := c240) (m_charWide := cw241) (m_trail := t242) (m_isMatch := 1) (m_matchGroups := m_matchGroups) (m_allFrom := m_allFrom) (m_allBefore := m_allBefore) (m_founds := m_founds) (m_pieces := m_pieces) (m_writtenMany := m_writtenMany) (m_templateWide := m_templateWide) (m_tooMuch := m_tooMuch) (SP := SP247) (s := s) (G0 := G80) (i_ := 0) (KE := KE) (by omega) hq54 (by omega) (Int.toNat (20 - 0) + 1) h80 h138 h139 (by omega) jke spE_0 fx.rf rfl rfl (by omega) (fun G81 KE282 hN139 hq83 hq84 hfk hlk hsk => ?_)
                      · have h80 := hfk.get h80 (by decide)
                        have h134 := hfk.get h134 (by decide)
                        have h135 := hfk.get h135 (by decide)
                        have h136 := hfk.get h136 (by decide)
                        have h137 := hfk.get h137 (by decide)
                        have h144 := hfk.get h144 (by decide)
                        have h138 := hfk.get h138 (by decide)
                        have h142 := hfk.get h142 (by decide)
                        have h143 := hfk.get h143 (by decide)
                        have h140 := hfk.get h140 (by decide)
                        have h141 := hfk.get h141 (by decide)
                        have h112 := hfk.get h112 (by decide)
                        have h114 := hfk.get h114 (by decide)
                        have h116 := hfk.get h116 (by decide)
                        have h118 := hfk.get h118 (by decide)
                        have h119 := hfk.get h119 (by decide)
                        have h120 := hfk.get h120 (by decide)
                        have h121 := hfk.get h121 (by decide)
                        have h122 := hfk.get h122 (by decide)
                        have h123 := hfk.get h123 (by decide)
                        have h124 := hfk.get h124 (by decide)
                        have h85 := hfk.get h85 (by decide)
                        have h117 := hfk.get h117 (by decide)
                        have h113 := hfk.get h113 (by decide)
                        have hfr := hfr.tr hfk (by decide)
                        have hlen := hlk.trans hlen
                        have hsl := hsk.trans hsl
                        have h139 := hN139
                        change ab_W _ _ _ G81 189 [some (vR 80), some (vz s), none, none, none, none] [] _
                        refine ab_aload_n d_MO_match_189 rfl ?_
                        refine ab_aload_n d_MO_match_190 rfl ?_
                        refine ab_getf (fs := mof 0 m_taped m_length m_out w239 m_gathered m_sets m_ranges m_nodes m_at m_flags m_fault m_place m_numbered m_depth m_value m_isNot m_least0 m_most0 m_slot m_work m_got m_rowMany c240 cw241 t242 1 m_matchGroups m_allFrom m_allBefore m_founds m_pieces m_writtenMany m_templateWide m_tooMuch) f_MO_115 d_MO_match_191 h80.2.2 rfl ?_
                        refine ab_iload_n d_MO_match_194 rfl ?_
                        refine zz_iald d_MO_match_195 h114 (by omega) ?_
                        refine ab_putf (fs := mof 0 m_taped m_length m_out w239 m_gathered m_sets m_ranges m_nodes m_at m_flags m_fault m_place m_numbered m_depth m_value m_isNot m_least0 m_most0 m_slot m_work m_got m_rowMany c240 cw241 t242 1 m_matchGroups m_allFrom m_allBefore m_founds m_pieces m_writtenMany m_templateWide m_tooMuch) f_MO_570 (Or.inl rfl) d_MO_match_196 h80.2.2 (Nat.le_of_ble_eq_true rfl) (fun _ => ⟨rfl, rfl⟩) (h80.2.1 (by decide)) ?_
                        obtain ⟨G85, eG85⟩ : ∃ z : ab_G, z = List.set G81 80 (ab_ob 12 (mof 0 m_taped m_length m_out w239 m_gathered m_sets m_ranges m_nodes m_at m_flags m_fault m_place m_numbered m_depth m_value m_isNot m_least0 m_most0 m_slot m_work m_got m_rowMany c240 cw241 t242 1 (A_groupsOf s) m_allFrom m_allBefore m_founds m_pieces m_writtenMany m_templateWide m_tooMuch)) := ⟨_, rfl⟩
                        have h139 := h139.keep h80 eG85 (by decide)
                        have h134 := h134.keep h80 eG85 (by decide)
                        have h135 := h135.keep h80 eG85 (by decide)
                        have h136 := h136.keep h80 eG85 (by decide)
                        have h137 := h137.keep h80 eG85 (by decide)
                        have h144 := h144.keep h80 eG85 (by decide)
                        have h138 := h138.keep h80 eG85 (by decide)
                        have h142 := h142.keep h80 eG85 (by decide)
                        have h143 := h143.keep h80 eG85 (by decide)
                        have h140 := h140.keep h80 eG85 (by decide)
                        have h141 := h141.keep h80 eG85 (by decide)
                        have h112 := h112.keep h80 eG85 (by decide)
                        have h114 := h114.keep h80 eG85 (by decide)
                        have h116 := h116.keep h80 eG85 (by decide)
                        have h118 := h118.keep h80 eG85 (by decide)
                        have h119 := h119.keep h80 eG85 (by decide)
                        have h120 := h120.keep h80 eG85 (by decide)
                        have h121 := h121.keep h80 eG85 (by decide)
                        have h122 := h122.keep h80 eG85 (by decide)
                        have h123 := h123.keep h80 eG85 (by decide)
                        have h124 := h124.keep h80 eG85 (by decide)
                        have h85 := h85.keep h80 eG85 (by decide)
                        have h117 := h117.keep h80 eG85 (by decide)
                        have h113 := h113.keep h80 eG85 (by decide)
                        have hlen := (z_len eG85).trans hlen
                        have hsl := (z_sl h80 eG85 rfl).trans hsl
                        have hfr := hfr.wr h80 eG85 (by decide)
                        have h80 := h80.kept eG85
                        change ab_W _ _ _ (List.set G81 80 (ab_ob 12 (mof 0 m_taped m_length m_out w239 m_gathered m_sets m_ranges m_nodes m_at m_flags m_fault m_place m_numbered m_depth m_value m_isNot m_least0 m_most0 m_slot m_work m_got m_rowMany c240 cw241 t242 1 (A_groupsOf s) m_allFrom m_allBefore m_founds m_pieces m_writtenMany m_templateWide m_tooMuch))) 199 [some (vR 80), some (vz s), none, none, none, none] [] _
                        rw [← eG85]
                        refine ab_aload_n d_MO_match_199 rfl ?_
                        refine ab_getf (fs := mof 0 m_taped m_length m_out w239 m_gathered m_sets m_ranges m_nodes m_at m_flags m_fault m_place m_numbered m_depth m_value m_isNot m_least0 m_most0 m_slot m_work m_got m_rowMany c240 cw241 t242 1 (A_groupsOf s) m_allFrom m_allBefore m_founds m_pieces m_writtenMany m_templateWide m_tooMuch) f_MO_563 d_MO_match_200 h80.2.2 rfl ?_
                        refine zz_if_eq (tgt := 215) d_MO_match_203 (by decide) (by decide) (fun c86 => absurd c86 (by decide)) (fun c86 => ?_)
                        refine ab_aload_n d_MO_match_206 rfl ?_
                        refine ab_getf (fs := mof 0 m_taped m_length m_out w239 m_gathered m_sets m_ranges m_nodes m_at m_flags m_fault m_place m_numbered m_depth m_value m_isNot m_least0 m_most0 m_slot m_work m_got m_rowMany c240 cw241 t242 1 (A_groupsOf s) m_allFrom m_allBefore m_founds m_pieces m_writtenMany m_templateWide m_tooMuch) f_MO_193 d_MO_match_207 h80.2.2 rfl ?_
                        refine zz_iconst d_MO_match_210 ?_
                        refine zz_iald d_MO_match_211 h139 (by omega) ?_
                        refine ab_goto (tgt := 216) d_MO_match_212 (by decide) ?_
                        refine zz_iret rfl d_MO_match_216 ?_
                        rw [hQ]; exact ⟨_, _, _, _, _, _, _, _, _, _, _, _, _, _, _, _, _, _, _, rfl, hfr, hlen, hsl, h80, h135, h136, h137, h144, h138, h142, h143, h140, h141, h134, h139, (by first | exact hq52 | exact rgs_w hq52 (by omega)), (by first | exact hq53 | exact rgs_w hq53 (by omega)), (by first | exact hq54 | exact rgs_w hq54 (by omega)), (by first | exact hq55 | exact rgs_w hq55 (by omega)), (by first | exact hq56 | exact rgs_w hq56 (by omega)), (by first | exact hq57 | exact rgs_w hq57 (by omega)), (by first | exact hq83 | exact rgs_w hq83 (by omega)), (by omega), (by exact Or.inl ⟨rfl, ⟨(hq4 (by omega)), by omega, by omega, by omega⟩, (fdw_f (by omega) hq59).cg hq84 (by decide), rfl, (fun h => by first | rfl | exact absurd h (by decide)), (fun h => by first | rfl | exact absurd h (by decide))⟩)⟩
                    · cases hv
                      have h139 := hfk.get h139 (by decide)
                      have h134 := hfk.get h134 (by decide)
                      have h112 := hfk.get h112 (by decide)
                      have h114 := hfk.get h114 (by decide)
                      have h116 := hfk.get h116 (by decide)
                      have h118 := hfk.get h118 (by decide)
                      have h119 := hfk.get h119 (by decide)
                      have h120 := hfk.get h120 (by decide)
                      have h121 := hfk.get h121 (by decide)
                      have h122 := hfk.get h122 (by decide)
                      have h123 := hfk.get h123 (by decide)
                      have h124 := hfk.get h124 (by decide)
                      have h85 := hfk.get h85 (by decide)
                      have h117 := hfk.get h117 (by decide)
                      have h113 := hfk.get h113 (by decide)
                      have hfr := hfr.tr hfk (by decide)
                      have hlen := hlk.trans hlen
                      have hsl := hsk.trans hsl
                      have h80 := hN80
                      have h135 := hN135
                      have h136 := hN136
                      have h137 := hN137
                      have h144 := hN144
                      have h138 := hN138
                      have h142 := hN142
                      have h143 := hN143
                      have h140 := hN140
                      have h141 := hN141
                      change ab_W _ _ _ G38 156 [some (vR 80), some (vz s), some (vz how), some (vz mc), some (vz fm), none] [vz 0, vR 80] _
                      refine ab_putf (fs := mof 0 m_taped m_length m_out w260 m_gathered m_sets m_ranges m_nodes m_at m_flags m_fault m_place m_numbered m_depth m_value m_isNot m_least0 m_most0 m_slot m_work m_got m_rowMany c261 cw262 t263 m_isMatch m_matchGroups m_allFrom m_allBefore m_founds m_pieces m_writtenMany m_templateWide m_tooMuch) f_MO_563 (Or.inl rfl) d_MO_match_156 h80.2.2 (Nat.le_of_ble_eq_true rfl) (ab_fbz (by decide)) (h80.2.1 (by decide)) ?_
                      obtain ⟨G87, eG87⟩ : ∃ z : ab_G, z = List.set G38 80 (ab_ob 12 (mof 0 m_taped m_length m_out w260 m_gathered m_sets m_ranges m_nodes m_at m_flags m_fault m_place m_numbered m_depth m_value m_isNot m_least0 m_most0 m_slot m_work m_got m_rowMany c261 cw262 t263 0 m_matchGroups m_allFrom m_allBefore m_founds m_pieces m_writtenMany m_templateWide m_tooMuch)) := ⟨_, rfl⟩
                      have h139 := h139.keep h80 eG87 (by decide)
                      have h134 := h134.keep h80 eG87 (by decide)
                      have h135 := h135.keep h80 eG87 (by decide)
                      have h136 := h136.keep h80 eG87 (by decide)
                      have h137 := h137.keep h80 eG87 (by decide)
                      have h144 := h144.keep h80 eG87 (by decide)
                      have h138 := h138.keep h80 eG87 (by decide)
                      have h142 := h142.keep h80 eG87 (by decide)
                      have h143 := h143.keep h80 eG87 (by decide)
                      have h140 := h140.keep h80 eG87 (by decide)
                      have h141 := h141.keep h80 eG87 (by decide)
                      have h112 := h112.keep h80 eG87 (by decide)
                      have h114 := h114.keep h80 eG87 (by decide)
                      have h116 := h116.keep h80 eG87 (by decide)
                      have h118 := h118.keep h80 eG87 (by decide)
                      have h119 := h119.keep h80 eG87 (by decide)
                      have h120 := h120.keep h80 eG87 (by decide)
                      have h121 := h121.keep h80 eG87 (by decide)
                      have h122 := h122.keep h80 eG87 (by decide)
                      have h123 := h123.keep h80 eG87 (by decide)
                      have h124 := h124.keep h80 eG87 (by decide)
                      have h85 := h85.keep h80 eG87 (by decide)
                      have h117 := h117.keep h80 eG87 (by decide)
                      have h113 := h113.keep h80 eG87 (by decide)
                      have hlen := (z_len eG87).trans hlen
                      have hsl := (z_sl h80 eG87 rfl).trans hsl
                      have hfr := hfr.wr h80 eG87 (by decide)
                      have h80 := h80.kept eG87
                      change ab_W _ _ _ (List.set G38 80 (ab_ob 12 (mof 0 m_taped m_length m_out w260 m_gathered m_sets m_ranges m_nodes m_at m_flags m_fault m_place m_numbered m_depth m_value m_isNot m_least0 m_most0 m_slot m_work m_got m_rowMany c261 cw262 t263 0 m_matchGroups m_allFrom m_allBefore m_founds m_pieces m_writtenMany m_templateWide m_tooMuch))) 159 [some (vR 80), some (vz s), some (vz how), some (vz mc), some (vz fm), none] [] _
                      rw [← eG87]
                      refine zz_iconst d_MO_match_159 ?_
                      refine ab_istore d_MO_match_160 (Nat.le_of_ble_eq_true rfl) (Nat.le_of_ble_eq_true rfl) rfl ?_
                      change ab_W _ _ _ G87 162 [some (vR 80), some (vz s), some (vz how), some (vz mc), some (vz fm), some (vz 0)] [] _
                      refine ab_less (L' := [some (vR 80), some (vz s), none, none, none, some (vz 0)]) (fun i v h => by rcases i with _ | _ | _ | _ | _ | _ | i <;> first | exact h | (simp at h)) ?_
                      refine y_MO_match_162 (m_thrown := 0) (m_taped := m_taped) (m_length := m_length) (m_out := m_out) (m_wide := w260) (m_gathered := m_gathered) (m_sets := m_sets) (m_ranges := m_ranges) (m_nodes := m_nodes) (m_at := m_at) (m_flags := m_flags) (m_fault := m_fault) (m_place := m_place) (m_numbered := m_numbered) (m_depth := m_depth) (m_value := m_value) (m_isNot := m_isNot) (m_least0 := m_least0) (m_most0 := m_most0) (m_slot := m_slot) (m_work := m_work) (m_got := m_got) (m_rowMany := m_rowMany) (m_charAt := c261) (m_charWide := cw262) (m_trail := t263) (m_isMatch := 0) (m_matchGroups := m_matchGroups) (m_allFrom := m_allFrom) (m_allBefore := m_allBefore) (m_founds := m_founds) (m_pieces := m_pieces) (m_writtenMany := m_writtenMany) (m_templateWide := m_templateWide) (m_tooMuch := m_tooMuch) (SP := SP268) (s := s) (G0 := G87) (i_ := 0) (KE := KE) (by omega) hq75 (by omega) (Int.toNat (20 - 0) + 1) h80 h138 h139 (by omega) jke spE_0 fx.rf rfl rfl (by omega) (fun G88 KE289 hN139 hq90 hq91 hfk hlk hsk => ?_)
                      · have h80 := hfk.get h80 (by decide)
                        have h134 := hfk.get h134 (by decide)
                        have h135 := hfk.get h135 (by decide)
                        have h136 := hfk.get h136 (by decide)
                        have h137 := hfk.get h137 (by decide)
                        have h144 := hfk.get h144 (by decide)
                        have h138 := hfk.get h138 (by decide)
                        have h142 := hfk.get h142 (by decide)
                        have h143 := hfk.get h143 (by decide)
                        have h140 := hfk.get h140 (by decide)
                        have h141 := hfk.get h141 (by decide)
                        have h112 := hfk.get h112 (by decide)
                        have h114 := hfk.get h114 (by decide)
                        have h116 := hfk.get h116 (by decide)
                        have h118 := hfk.get h118 (by decide)
                        have h119 := hfk.get h119 (by decide)
                        have h120 := hfk.get h120 (by decide)
                        have h121 := hfk.get h121 (by decide)
                        have h122 := hfk.get h122 (by decide)
                        have h123 := hfk.get h123 (by decide)
                        have h124 := hfk.get h124 (by decide)
                        have h85 := hfk.get h85 (by decide)
                        have h117 := hfk.get h117 (by decide)
                        have h113 := hfk.get h113 (by decide)
                        have hfr := hfr.tr hfk (by decide)
                        have hlen := hlk.trans hlen
                        have hsl := hsk.trans hsl
                        have h139 := hN139
                        change ab_W _ _ _ G88 189 [some (vR 80), some (vz s), none, none, none, none] [] _
                        refine ab_aload_n d_MO_match_189 rfl ?_
                        refine ab_aload_n d_MO_match_190 rfl ?_
                        refine ab_getf (fs := mof 0 m_taped m_length m_out w260 m_gathered m_sets m_ranges m_nodes m_at m_flags m_fault m_place m_numbered m_depth m_value m_isNot m_least0 m_most0 m_slot m_work m_got m_rowMany c261 cw262 t263 0 m_matchGroups m_allFrom m_allBefore m_founds m_pieces m_writtenMany m_templateWide m_tooMuch) f_MO_115 d_MO_match_191 h80.2.2 rfl ?_
                        refine ab_iload_n d_MO_match_194 rfl ?_
                        refine zz_iald d_MO_match_195 h114 (by omega) ?_
                        refine ab_putf (fs := mof 0 m_taped m_length m_out w260 m_gathered m_sets m_ranges m_nodes m_at m_flags m_fault m_place m_numbered m_depth m_value m_isNot m_least0 m_most0 m_slot m_work m_got m_rowMany c261 cw262 t263 0 m_matchGroups m_allFrom m_allBefore m_founds m_pieces m_writtenMany m_templateWide m_tooMuch) f_MO_570 (Or.inl rfl) d_MO_match_196 h80.2.2 (Nat.le_of_ble_eq_true rfl) (fun _ => ⟨rfl, rfl⟩) (h80.2.1 (by decide)) ?_
                        obtain ⟨G92, eG92⟩ : ∃ z : ab_G, z = List.set G88 80 (ab_ob 12 (mof 0 m_taped m_length m_out w260 m_gathered m_sets m_ranges m_nodes m_at m_flags m_fault m_place m_numbered m_depth m_value m_isNot m_least0 m_most0 m_slot m_work m_got m_rowMany c261 cw262 t263 0 (A_groupsOf s) m_allFrom m_allBefore m_founds m_pieces m_writtenMany m_templateWide m_tooMuch)) := ⟨_, rfl⟩
                        have h139 := h139.keep h80 eG92 (by decide)
                        have h134 := h134.keep h80 eG92 (by decide)
                        have h135 := h135.keep h80 eG92 (by decide)
                        have h136 := h136.keep h80 eG92 (by decide)
                        have h137 := h137.keep h80 eG92 (by decide)
                        have h144 := h144.keep h80 eG92 (by decide)
                        have h138 := h138.keep h80 eG92 (by decide)
                        have h142 := h142.keep h80 eG92 (by decide)
                        have h143 := h143.keep h80 eG92 (by decide)
                        have h140 := h140.keep h80 eG92 (by decide)
                        have h141 := h141.keep h80 eG92 (by decide)
                        have h112 := h112.keep h80 eG92 (by decide)
                        have h114 := h114.keep h80 eG92 (by decide)
                        have h116 := h116.keep h80 eG92 (by decide)
                        have h118 := h118.keep h80 eG92 (by decide)
                        have h119 := h119.keep h80 eG92 (by decide)
                        have h120 := h120.keep h80 eG92 (by decide)
                        have h121 := h121.keep h80 eG92 (by decide)
                        have h122 := h122.keep h80 eG92 (by decide)
                        have h123 := h123.keep h80 eG92 (by decide)
                        have h124 := h124.keep h80 eG92 (by decide)
                        have h85 := h85.keep h80 eG92 (by decide)
                        have h117 := h117.keep h80 eG92 (by decide)
                        have h113 := h113.keep h80 eG92 (by decide)
                        have hlen := (z_len eG92).trans hlen
                        have hsl := (z_sl h80 eG92 rfl).trans hsl
                        have hfr := hfr.wr h80 eG92 (by decide)
                        have h80 := h80.kept eG92
                        change ab_W _ _ _ (List.set G88 80 (ab_ob 12 (mof 0 m_taped m_length m_out w260 m_gathered m_sets m_ranges m_nodes m_at m_flags m_fault m_place m_numbered m_depth m_value m_isNot m_least0 m_most0 m_slot m_work m_got m_rowMany c261 cw262 t263 0 (A_groupsOf s) m_allFrom m_allBefore m_founds m_pieces m_writtenMany m_templateWide m_tooMuch))) 199 [some (vR 80), some (vz s), none, none, none, none] [] _
                        rw [← eG92]
                        refine ab_aload_n d_MO_match_199 rfl ?_
                        refine ab_getf (fs := mof 0 m_taped m_length m_out w260 m_gathered m_sets m_ranges m_nodes m_at m_flags m_fault m_place m_numbered m_depth m_value m_isNot m_least0 m_most0 m_slot m_work m_got m_rowMany c261 cw262 t263 0 (A_groupsOf s) m_allFrom m_allBefore m_founds m_pieces m_writtenMany m_templateWide m_tooMuch) f_MO_563 d_MO_match_200 h80.2.2 rfl ?_
                        refine zz_if_eq (tgt := 215) d_MO_match_203 (by decide) (by decide) (fun c93 => ?_) (fun c93 => absurd c93 (by decide))
                        refine zz_iconst d_MO_match_215 ?_
                        refine zz_iret rfl d_MO_match_216 ?_
                        rw [hQ]; exact ⟨_, _, _, _, _, _, _, _, _, _, _, _, _, _, _, _, _, _, _, rfl, hfr, hlen, hsl, h80, h135, h136, h137, h144, h138, h142, h143, h140, h141, h134, h139, (by first | exact hq73 | exact rgs_w hq73 (by omega)), (by first | exact hq74 | exact rgs_w hq74 (by omega)), (by first | exact hq75 | exact rgs_w hq75 (by omega)), (by first | exact hq76 | exact rgs_w hq76 (by omega)), (by first | exact hq77 | exact rgs_w hq77 (by omega)), (by first | exact hq78 | exact rgs_w hq78 (by omega)), (by first | exact hq90 | exact rgs_w hq90 (by omega)), (by omega), (by exact Or.inl ⟨rfl, ⟨(hq4 (by omega)), by omega, by omega, by omega⟩, (fdw_f (by omega) hq79).cg hq91 (by decide), rfl, (fun h => by first | rfl | exact absurd h (by decide)), (fun h => by first | rfl | exact absurd h (by decide))⟩)⟩
                  · refine zz_iconst d_MO_match_148 ?_
                    refine ab_goto (tgt := 153) d_MO_match_149 (by decide) ?_
                    refine ab_callV (d' := d - 1) (as := [vz s, vz fm, vz 1]) (st := [vR 80]) (r := _) (z_MO_find (o := o) (m_thrown := 0) (m_taped := m_taped) (m_length := m_length) (m_out := m_out) (m_wide := w231) (m_gathered := m_gathered) (m_sets := m_sets) (m_ranges := m_ranges) (m_nodes := m_nodes) (m_at := m_at) (m_flags := m_flags) (m_fault := m_fault) (m_place := m_place) (m_numbered := m_numbered) (m_depth := m_depth) (m_value := m_value) (m_isNot := m_isNot) (m_least0 := m_least0) (m_most0 := m_most0) (m_slot := m_slot) (m_work := m_work) (m_got := m_got) (m_rowMany := m_rowMany) (m_charAt := c232) (m_charWide := cw233) (m_trail := m_trail) (m_isMatch := m_isMatch) (m_matchGroups := m_matchGroups) (m_allFrom := m_allFrom) (m_allBefore := m_allBefore) (m_founds := m_founds) (m_pieces := m_pieces) (m_writtenMany := m_writtenMany) (m_templateWide := m_templateWide) (m_tooMuch := m_tooMuch) (A_flagsOf := A_flagsOf) (A_step := A_step) (A_next := A_next) (A_more := A_more) (A_classAt := A_classAt) (A_classMany := A_classMany) (A_classLow := A_classLow) (A_classHigh := A_classHigh) (A_subject := A_subject) (A_stepMany := A_stepMany) (A_entry := A_entry) (CN := NO229) (JU := JU) (CO := CO) (ZN := Z230) (ZS := ZS) (SP := SP) (PL := PL) (PT := PT) (TS := TS) (TO := TO) (s := s) (fm := fm) (sr := 1) (to := fm) (v9 := (V6 s)) (hw9 := how) h80 h134 h135 h136 h137 h144 h138 h142 h143 h140 h141 h116 h118 h119 h120 h121 h122 h123 h124 h85 h117 h113 (by omega) (by omega) (by omega) hp5_ jst jcl jch jsb (by omega) (by omega) (by omega) hq35 (ntK_of (fun k a c => jsb k a (by omega)) hp5_ hq35 hq36 (by omega) (by omega)) hp6_ hq34 jse jsp jpt jts jto (by omega)) (fun oc G2 h => by rcases h with ⟨_, _, _, _, _, _, _, _, _, _, _, _, _, h, _⟩ | ⟨_, _, _, _, _, _, _, _, _, _, _, _, _, h, _⟩ <;> exact ⟨_, h⟩) (by omega) m_MO_find ml_MO_566 im_MO_find se_MO_find c_MO h80.2.2 (Nat.le_of_ble_eq_true rfl) d_MO_match_153 rfl ?_
                    intro v G94 hq
                    rcases hq with ⟨w295, c296, cw297, t298, JU299, CO2100, ZN2101, ZS2102, SP2103, PL2104, PT2105, TS2106, TO2107, hv, hfk, hlk, hsk, hN80, hN135, hN136, hN137, hN144, hN138, hN142, hN143, hN140, hN141, hq108, hq109, hq110, hq111, hq112, hq113, hq114, hq115⟩ | ⟨w2116, c2117, cw2118, t2119, JU2120, CO2121, ZN2122, ZS2123, SP2124, PL2125, PT2126, TS2127, TO2128, hv, hfk, hlk, hsk, hN80, hN135, hN136, hN137, hN144, hN138, hN142, hN143, hN140, hN141, hq129, hq130, hq131, hq132, hq133, hq134, hq135⟩
                    · cases hv
                      have h139 := hfk.get h139 (by decide)
                      have h134 := hfk.get h134 (by decide)
                      have h112 := hfk.get h112 (by decide)
                      have h114 := hfk.get h114 (by decide)
                      have h116 := hfk.get h116 (by decide)
                      have h118 := hfk.get h118 (by decide)
                      have h119 := hfk.get h119 (by decide)
                      have h120 := hfk.get h120 (by decide)
                      have h121 := hfk.get h121 (by decide)
                      have h122 := hfk.get h122 (by decide)
                      have h123 := hfk.get h123 (by decide)
                      have h124 := hfk.get h124 (by decide)
                      have h85 := hfk.get h85 (by decide)
                      have h117 := hfk.get h117 (by decide)
                      have h113 := hfk.get h113 (by decide)
                      have hfr := hfr.tr hfk (by decide)
                      have hlen := hlk.trans hlen
                      have hsl := hsk.trans hsl
                      have h80 := hN80
                      have h135 := hN135
                      have h136 := hN136
                      have h137 := hN137
                      have h144 := hN144
                      have h138 := hN138
                      have h142 := hN142
                      have h143 := hN143
                      have h140 := hN140
                      have h141 := hN141
                      change ab_W _ _ _ G94 156 [some (vR 80), some (vz s), some (vz how), some (vz mc), some (vz fm), none] [vz 1, vR 80] _
                      refine ab_putf (fs := mof 0 m_taped m_length m_out w295 m_gathered m_sets m_ranges m_nodes m_at m_flags m_fault m_place m_numbered m_depth m_value m_isNot m_least0 m_most0 m_slot m_work m_got m_rowMany c296 cw297 t298 m_isMatch m_matchGroups m_allFrom m_allBefore m_founds m_pieces m_writtenMany m_templateWide m_tooMuch) f_MO_563 (Or.inl rfl) d_MO_match_156 h80.2.2 (Nat.le_of_ble_eq_true rfl) (ab_fbz (by decide)) (h80.2.1 (by decide)) ?_
                      obtain ⟨G136, eG136⟩ : ∃ z : ab_G, z = List.set G94 80 (ab_ob 12 (mof 0 m_taped m_length m_out w295 m_gathered m_sets m_ranges m_nodes m_at m_flags m_fault m_place m_numbered m_depth m_value m_isNot m_least0 m_most0 m_slot m_work m_got m_rowMany c296 cw297 t298 1 m_matchGroups m_allFrom m_allBefore m_founds m_pieces m_writtenMany m_templateWide m_tooMuch)) := ⟨_, rfl⟩
                      have h139 := h139.keep h80 eG136 (by decide)
                      have h134 := h134.keep h80 eG136 (by decide)
                      have h135 := h135.keep h80 eG136 (by decide)
                      have h136 := h136.keep h80 eG136 (by decide)
                      have h137 := h137.keep h80 eG136 (by decide)
                      have h144 := h144.keep h80 eG136 (by decide)
                      have h138 := h138.keep h80 eG136 (by decide)
                      have h142 := h142.keep h80 eG136 (by decide)
                      have h143 := h143.keep h80 eG136 (by decide)
                      have h140 := h140.keep h80 eG136 (by decide)
                      have h141 := h141.keep h80 eG136 (by decide)
                      have h112 := h112.keep h80 eG136 (by decide)
                      have h114 := h114.keep h80 eG136 (by decide)
                      have h116 := h116.keep h80 eG136 (by decide)
                      have h118 := h118.keep h80 eG136 (by decide)
                      have h119 := h119.keep h80 eG136 (by decide)
                      have h120 := h120.keep h80 eG136 (by decide)
                      have h121 := h121.keep h80 eG136 (by decide)
                      have h122 := h122.keep h80 eG136 (by decide)
                      have h123 := h123.keep h80 eG136 (by decide)
                      have h124 := h124.keep h80 eG136 (by decide)
                      have h85 := h85.keep h80 eG136 (by decide)
                      have h117 := h117.keep h80 eG136 (by decide)
                      have h113 := h113.keep h80 eG136 (by decide)
                      have hlen := (z_len eG136).trans hlen
                      have hsl := (z_sl h80 eG136 rfl).trans hsl
                      have hfr := hfr.wr h80 eG136 (by decide)
                      have h80 := h80.kept eG136
                      change ab_W _ _ _ (List.set G94 80 (ab_ob 12 (mof 0 m_taped m_length m_out w295 m_gathered m_sets m_ranges m_nodes m_at m_flags m_fault m_place m_numbered m_depth m_value m_isNot m_least0 m_most0 m_slot m_work m_got m_rowMany c296 cw297 t298 1 m_matchGroups m_allFrom m_allBefore m_founds m_pieces m_writtenMany m_templateWide m_tooMuch))) 159 [some (vR 80), some (vz s), some (vz how), some (vz mc), some (vz fm), none] [] _
                      rw [← eG136]
                      refine zz_iconst d_MO_match_159 ?_
                      refine ab_istore d_MO_match_160 (Nat.le_of_ble_eq_true rfl) (Nat.le_of_ble_eq_true rfl) rfl ?_
                      change ab_W _ _ _ G136 162 [some (vR 80), some (vz s), some (vz how), some (vz mc), some (vz fm), some (vz 0)] [] _
                      refine ab_less (L' := [some (vR 80), some (vz s), none, none, none, some (vz 0)]) (fun i v h => by rcases i with _ | _ | _ | _ | _ | _ | i <;> first | exact h | (simp at h)) ?_
                      refine y_MO_match_162 (m_thrown := 0) (m_taped := m_taped) (m_length := m_length) (m_out := m_out) (m_wide := w295) (m_gathered := m_gathered) (m_sets := m_sets) (m_ranges := m_ranges) (m_nodes := m_nodes) (m_at := m_at) (m_flags := m_flags) (m_fault := m_fault) (m_place := m_place) (m_numbered := m_numbered) (m_depth := m_depth) (m_value := m_value) (m_isNot := m_isNot) (m_least0 := m_least0) (m_most0 := m_most0) (m_slot := m_slot) (m_work := m_work) (m_got := m_got) (m_rowMany := m_rowMany) (m_charAt := c296) (m_charWide := cw297) (m_trail := t298) (m_isMatch := 1) (m_matchGroups := m_matchGroups) (m_allFrom := m_allFrom) (m_allBefore := m_allBefore) (m_founds := m_founds) (m_pieces := m_pieces) (m_writtenMany := m_writtenMany) (m_templateWide := m_templateWide) (m_tooMuch := m_tooMuch) (SP := SP2103) (s := s) (G0 := G136) (i_ := 0) (KE := KE) (by omega) hq110 (by omega) (Int.toNat (20 - 0) + 1) h80 h138 h139 (by omega) jke spE_0 fx.rf rfl rfl (by omega) (fun G137 KE2138 hN139 hq139 hq140 hfk hlk hsk => ?_)
                      · have h80 := hfk.get h80 (by decide)
                        have h134 := hfk.get h134 (by decide)
                        have h135 := hfk.get h135 (by decide)
                        have h136 := hfk.get h136 (by decide)
                        have h137 := hfk.get h137 (by decide)
                        have h144 := hfk.get h144 (by decide)
                        have h138 := hfk.get h138 (by decide)
                        have h142 := hfk.get h142 (by decide)
                        have h143 := hfk.get h143 (by decide)
                        have h140 := hfk.get h140 (by decide)
                        have h141 := hfk.get h141 (by decide)
                        have h112 := hfk.get h112 (by decide)
                        have h114 := hfk.get h114 (by decide)
                        have h116 := hfk.get h116 (by decide)
                        have h118 := hfk.get h118 (by decide)
                        have h119 := hfk.get h119 (by decide)
                        have h120 := hfk.get h120 (by decide)
                        have h121 := hfk.get h121 (by decide)
                        have h122 := hfk.get h122 (by decide)
                        have h123 := hfk.get h123 (by decide)
                        have h124 := hfk.get h124 (by decide)
                        have h85 := hfk.get h85 (by decide)
                        have h117 := hfk.get h117 (by decide)
                        have h113 := hfk.get h113 (by decide)
                        have hfr := hfr.tr hfk (by decide)
                        have hlen := hlk.trans hlen
                        have hsl := hsk.trans hsl
                        have h139 := hN139
                        change ab_W _ _ _ G137 189 [some (vR 80), some (vz s), none, none, none, none] [] _
                        refine ab_aload_n d_MO_match_189 rfl ?_
                        refine ab_aload_n d_MO_match_190 rfl ?_
                        refine ab_getf (fs := mof 0 m_taped m_length m_out w295 m_gathered m_sets m_ranges m_nodes m_at m_flags m_fault m_place m_numbered m_depth m_value m_isNot m_least0 m_most0 m_slot m_work m_got m_rowMany c296 cw297 t298 1 m_matchGroups m_allFrom m_allBefore m_founds m_pieces m_writtenMany m_templateWide m_tooMuch) f_MO_115 d_MO_match_191 h80.2.2 rfl ?_
                        refine ab_iload_n d_MO_match_194 rfl ?_
                        refine zz_iald d_MO_match_195 h114 (by omega) ?_
                        refine ab_putf (fs := mof 0 m_taped m_length m_out w295 m_gathered m_sets m_ranges m_nodes m_at m_flags m_fault m_place m_numbered m_depth m_value m_isNot m_least0 m_most0 m_slot m_work m_got m_rowMany c296 cw297 t298 1 m_matchGroups m_allFrom m_allBefore m_founds m_pieces m_writtenMany m_templateWide m_tooMuch) f_MO_570 (Or.inl rfl) d_MO_match_196 h80.2.2 (Nat.le_of_ble_eq_true rfl) (fun _ => ⟨rfl, rfl⟩) (h80.2.1 (by decide)) ?_
                        obtain ⟨G141, eG141⟩ : ∃ z : ab_G, z = List.set G137 80 (ab_ob 12 (mof 0 m_taped m_length m_out w295 m_gathered m_sets m_ranges m_nodes m_at m_flags m_fault m_place m_numbered m_depth m_value m_isNot m_least0 m_most0 m_slot m_work m_got m_rowMany c296 cw297 t298 1 (A_groupsOf s) m_allFrom m_allBefore m_founds m_pieces m_writtenMany m_templateWide m_tooMuch)) := ⟨_, rfl⟩
                        have h139 := h139.keep h80 eG141 (by decide)
                        have h134 := h134.keep h80 eG141 (by decide)
                        have h135 := h135.keep h80 eG141 (by decide)
                        have h136 := h136.keep h80 eG141 (by decide)
                        have h137 := h137.keep h80 eG141 (by decide)
                        have h144 := h144.keep h80 eG141 (by decide)
                        have h138 := h138.keep h80 eG141 (by decide)
                        have h142 := h142.keep h80 eG141 (by decide)
                        have h143 := h143.keep h80 eG141 (by decide)
                        have h140 := h140.keep h80 eG141 (by decide)
                        have h141 := h141.keep h80 eG141 (by decide)
                        have h112 := h112.keep h80 eG141 (by decide)
                        have h114 := h114.keep h80 eG141 (by decide)
                        have h116 := h116.keep h80 eG141 (by decide)
                        have h118 := h118.keep h80 eG141 (by decide)
                        have h119 := h119.keep h80 eG141 (by decide)
                        have h120 := h120.keep h80 eG141 (by decide)
                        have h121 := h121.keep h80 eG141 (by decide)
                        have h122 := h122.keep h80 eG141 (by decide)
                        have h123 := h123.keep h80 eG141 (by decide)
                        have h124 := h124.keep h80 eG141 (by decide)
                        have h85 := h85.keep h80 eG141 (by decide)
                        have h117 := h117.keep h80 eG141 (by decide)
                        have h113 := h113.keep h80 eG141 (by decide)
                        have hlen := (z_len eG141).trans hlen
                        have hsl := (z_sl h80 eG141 rfl).trans hsl
                        have hfr := hfr.wr h80 eG141 (by decide)
                        have h80 := h80.kept eG141
                        change ab_W _ _ _ (List.set G137 80 (ab_ob 12 (mof 0 m_taped m_length m_out w295 m_gathered m_sets m_ranges m_nodes m_at m_flags m_fault m_place m_numbered m_depth m_value m_isNot m_least0 m_most0 m_slot m_work m_got m_rowMany c296 cw297 t298 1 (A_groupsOf s) m_allFrom m_allBefore m_founds m_pieces m_writtenMany m_templateWide m_tooMuch))) 199 [some (vR 80), some (vz s), none, none, none, none] [] _
                        rw [← eG141]
                        refine ab_aload_n d_MO_match_199 rfl ?_
                        refine ab_getf (fs := mof 0 m_taped m_length m_out w295 m_gathered m_sets m_ranges m_nodes m_at m_flags m_fault m_place m_numbered m_depth m_value m_isNot m_least0 m_most0 m_slot m_work m_got m_rowMany c296 cw297 t298 1 (A_groupsOf s) m_allFrom m_allBefore m_founds m_pieces m_writtenMany m_templateWide m_tooMuch) f_MO_563 d_MO_match_200 h80.2.2 rfl ?_
                        refine zz_if_eq (tgt := 215) d_MO_match_203 (by decide) (by decide) (fun c142 => absurd c142 (by decide)) (fun c142 => ?_)
                        refine ab_aload_n d_MO_match_206 rfl ?_
                        refine ab_getf (fs := mof 0 m_taped m_length m_out w295 m_gathered m_sets m_ranges m_nodes m_at m_flags m_fault m_place m_numbered m_depth m_value m_isNot m_least0 m_most0 m_slot m_work m_got m_rowMany c296 cw297 t298 1 (A_groupsOf s) m_allFrom m_allBefore m_founds m_pieces m_writtenMany m_templateWide m_tooMuch) f_MO_193 d_MO_match_207 h80.2.2 rfl ?_
                        refine zz_iconst d_MO_match_210 ?_
                        refine zz_iald d_MO_match_211 h139 (by omega) ?_
                        refine ab_goto (tgt := 216) d_MO_match_212 (by decide) ?_
                        refine zz_iret rfl d_MO_match_216 ?_
                        rw [hQ]; exact ⟨_, _, _, _, _, _, _, _, _, _, _, _, _, _, _, _, _, _, _, rfl, hfr, hlen, hsl, h80, h135, h136, h137, h144, h138, h142, h143, h140, h141, h134, h139, (by first | exact hq108 | exact rgs_w hq108 (by omega)), (by first | exact hq109 | exact rgs_w hq109 (by omega)), (by first | exact hq110 | exact rgs_w hq110 (by omega)), (by first | exact hq111 | exact rgs_w hq111 (by omega)), (by first | exact hq112 | exact rgs_w hq112 (by omega)), (by first | exact hq113 | exact rgs_w hq113 (by omega)), (by first | exact hq139 | exact rgs_w hq139 (by omega)), (by omega), (by exact Or.inl ⟨rfl, ⟨(hq4 (by omega)), by omega, by omega, by omega⟩, (fdw_f (by omega) hq115).cg hq140 (by decide), rfl, (fun h => by first | rfl | exact absurd h (by decide)), (fun h => by first | rfl | exact absurd h (by decide))⟩)⟩
                    · cases hv
                      have h139 := hfk.get h139 (by decide)
                      have h134 := hfk.get h134 (by decide)
                      have h112 := hfk.get h112 (by decide)
                      have h114 := hfk.get h114 (by decide)
                      have h116 := hfk.get h116 (by decide)
                      have h118 := hfk.get h118 (by decide)
                      have h119 := hfk.get h119 (by decide)
                      have h120 := hfk.get h120 (by decide)
                      have h121 := hfk.get h121 (by decide)
                      have h122 := hfk.get h122 (by decide)
                      have h123 := hfk.get h123 (by decide)
                      have h124 := hfk.get h124 (by decide)
                      have h85 := hfk.get h85 (by decide)
                      have h117 := hfk.get h117 (by decide)
                      have h113 := hfk.get h113 (by decide)
                      have hfr := hfr.tr hfk (by decide)
                      have hlen := hlk.trans hlen
                      have hsl := hsk.trans hsl
                      have h80 := hN80
                      have h135 := hN135
                      have h136 := hN136
                      have h137 := hN137
                      have h144 := hN144
                      have h138 := hN138
                      have h142 := hN142
                      have h143 := hN143
                      have h140 := hN140
                      have h141 := hN141
                      change ab_W _ _ _ G94 156 [some (vR 80), some (vz s), some (vz how), some (vz mc), some (vz fm), none] [vz 0, vR 80] _
                      refine ab_putf (fs := mof 0 m_taped m_length m_out w2116 m_gathered m_sets m_ranges m_nodes m_at m_flags m_fault m_place m_numbered m_depth m_value m_isNot m_least0 m_most0 m_slot m_work m_got m_rowMany c2117 cw2118 t2119 m_isMatch m_matchGroups m_allFrom m_allBefore m_founds m_pieces m_writtenMany m_templateWide m_tooMuch) f_MO_563 (Or.inl rfl) d_MO_match_156 h80.2.2 (Nat.le_of_ble_eq_true rfl) (ab_fbz (by decide)) (h80.2.1 (by decide)) ?_
                      obtain ⟨G143, eG143⟩ : ∃ z : ab_G, z = List.set G94 80 (ab_ob 12 (mof 0 m_taped m_length m_out w2116 m_gathered m_sets m_ranges m_nodes m_at m_flags m_fault m_place m_numbered m_depth m_value m_isNot m_least0 m_most0 m_slot m_work m_got m_rowMany c2117 cw2118 t2119 0 m_matchGroups m_allFrom m_allBefore m_founds m_pieces m_writtenMany m_templateWide m_tooMuch)) := ⟨_, rfl⟩
                      have h139 := h139.keep h80 eG143 (by decide)
                      have h134 := h134.keep h80 eG143 (by decide)
                      have h135 := h135.keep h80 eG143 (by decide)
                      have h136 := h136.keep h80 eG143 (by decide)
                      have h137 := h137.keep h80 eG143 (by decide)
                      have h144 := h144.keep h80 eG143 (by decide)
                      have h138 := h138.keep h80 eG143 (by decide)
                      have h142 := h142.keep h80 eG143 (by decide)
                      have h143 := h143.keep h80 eG143 (by decide)
                      have h140 := h140.keep h80 eG143 (by decide)
                      have h141 := h141.keep h80 eG143 (by decide)
                      have h112 := h112.keep h80 eG143 (by decide)
                      have h114 := h114.keep h80 eG143 (by decide)
                      have h116 := h116.keep h80 eG143 (by decide)
                      have h118 := h118.keep h80 eG143 (by decide)
                      have h119 := h119.keep h80 eG143 (by decide)
                      have h120 := h120.keep h80 eG143 (by decide)
                      have h121 := h121.keep h80 eG143 (by decide)
                      have h122 := h122.keep h80 eG143 (by decide)
                      have h123 := h123.keep h80 eG143 (by decide)
                      have h124 := h124.keep h80 eG143 (by decide)
                      have h85 := h85.keep h80 eG143 (by decide)
                      have h117 := h117.keep h80 eG143 (by decide)
                      have h113 := h113.keep h80 eG143 (by decide)
                      have hlen := (z_len eG143).trans hlen
                      have hsl := (z_sl h80 eG143 rfl).trans hsl
                      have hfr := hfr.wr h80 eG143 (by decide)
                      have h80 := h80.kept eG143
                      change ab_W _ _ _ (List.set G94 80 (ab_ob 12 (mof 0 m_taped m_length m_out w2116 m_gathered m_sets m_ranges m_nodes m_at m_flags m_fault m_place m_numbered m_depth m_value m_isNot m_least0 m_most0 m_slot m_work m_got m_rowMany c2117 cw2118 t2119 0 m_matchGroups m_allFrom m_allBefore m_founds m_pieces m_writtenMany m_templateWide m_tooMuch))) 159 [some (vR 80), some (vz s), some (vz how), some (vz mc), some (vz fm), none] [] _
                      rw [← eG143]
                      refine zz_iconst d_MO_match_159 ?_
                      refine ab_istore d_MO_match_160 (Nat.le_of_ble_eq_true rfl) (Nat.le_of_ble_eq_true rfl) rfl ?_
                      change ab_W _ _ _ G143 162 [some (vR 80), some (vz s), some (vz how), some (vz mc), some (vz fm), some (vz 0)] [] _
                      refine ab_less (L' := [some (vR 80), some (vz s), none, none, none, some (vz 0)]) (fun i v h => by rcases i with _ | _ | _ | _ | _ | _ | i <;> first | exact h | (simp at h)) ?_
                      refine y_MO_match_162 (m_thrown := 0) (m_taped := m_taped) (m_length := m_length) (m_out := m_out) (m_wide := w2116) (m_gathered := m_gathered) (m_sets := m_sets) (m_ranges := m_ranges) (m_nodes := m_nodes) (m_at := m_at) (m_flags := m_flags) (m_fault := m_fault) (m_place := m_place) (m_numbered := m_numbered) (m_depth := m_depth) (m_value := m_value) (m_isNot := m_isNot) (m_least0 := m_least0) (m_most0 := m_most0) (m_slot := m_slot) (m_work := m_work) (m_got := m_got) (m_rowMany := m_rowMany) (m_charAt := c2117) (m_charWide := cw2118) (m_trail := t2119) (m_isMatch := 0) (m_matchGroups := m_matchGroups) (m_allFrom := m_allFrom) (m_allBefore := m_allBefore) (m_founds := m_founds) (m_pieces := m_pieces) (m_writtenMany := m_writtenMany) (m_templateWide := m_templateWide) (m_tooMuch := m_tooMuch) (SP := SP2124) (s := s) (G0 := G143) (i_ := 0) (KE := KE) (by omega) hq131 (by omega) (Int.toNat (20 - 0) + 1) h80 h138 h139 (by omega) jke spE_0 fx.rf rfl rfl (by omega) (fun G144 KE2145 hN139 hq146 hq147 hfk hlk hsk => ?_)
                      · have h80 := hfk.get h80 (by decide)
                        have h134 := hfk.get h134 (by decide)
                        have h135 := hfk.get h135 (by decide)
                        have h136 := hfk.get h136 (by decide)
                        have h137 := hfk.get h137 (by decide)
                        have h144 := hfk.get h144 (by decide)
                        have h138 := hfk.get h138 (by decide)
                        have h142 := hfk.get h142 (by decide)
                        have h143 := hfk.get h143 (by decide)
                        have h140 := hfk.get h140 (by decide)
                        have h141 := hfk.get h141 (by decide)
                        have h112 := hfk.get h112 (by decide)
                        have h114 := hfk.get h114 (by decide)
                        have h116 := hfk.get h116 (by decide)
                        have h118 := hfk.get h118 (by decide)
                        have h119 := hfk.get h119 (by decide)
                        have h120 := hfk.get h120 (by decide)
                        have h121 := hfk.get h121 (by decide)
                        have h122 := hfk.get h122 (by decide)
                        have h123 := hfk.get h123 (by decide)
                        have h124 := hfk.get h124 (by decide)
                        have h85 := hfk.get h85 (by decide)
                        have h117 := hfk.get h117 (by decide)
                        have h113 := hfk.get h113 (by decide)
                        have hfr := hfr.tr hfk (by decide)
                        have hlen := hlk.trans hlen
                        have hsl := hsk.trans hsl
                        have h139 := hN139
                        change ab_W _ _ _ G144 189 [some (vR 80), some (vz s), none, none, none, none] [] _
                        refine ab_aload_n d_MO_match_189 rfl ?_
                        refine ab_aload_n d_MO_match_190 rfl ?_
                        refine ab_getf (fs := mof 0 m_taped m_length m_out w2116 m_gathered m_sets m_ranges m_nodes m_at m_flags m_fault m_place m_numbered m_depth m_value m_isNot m_least0 m_most0 m_slot m_work m_got m_rowMany c2117 cw2118 t2119 0 m_matchGroups m_allFrom m_allBefore m_founds m_pieces m_writtenMany m_templateWide m_tooMuch) f_MO_115 d_MO_match_191 h80.2.2 rfl ?_
                        refine ab_iload_n d_MO_match_194 rfl ?_
                        refine zz_iald d_MO_match_195 h114 (by omega) ?_
                        refine ab_putf (fs := mof 0 m_taped m_length m_out w2116 m_gathered m_sets m_ranges m_nodes m_at m_flags m_fault m_place m_numbered m_depth m_value m_isNot m_least0 m_most0 m_slot m_work m_got m_rowMany c2117 cw2118 t2119 0 m_matchGroups m_allFrom m_allBefore m_founds m_pieces m_writtenMany m_templateWide m_tooMuch) f_MO_570 (Or.inl rfl) d_MO_match_196 h80.2.2 (Nat.le_of_ble_eq_true rfl) (fun _ => ⟨rfl, rfl⟩) (h80.2.1 (by decide)) ?_
                        obtain ⟨G148, eG148⟩ : ∃ z : ab_G, z = List.set G144 80 (ab_ob 12 (mof 0 m_taped m_length m_out w2116 m_gathered m_sets m_ranges m_nodes m_at m_flags m_fault m_place m_numbered m_depth m_value m_isNot m_least0 m_most0 m_slot m_work m_got m_rowMany c2117 cw2118 t2119 0 (A_groupsOf s) m_allFrom m_allBefore m_founds m_pieces m_writtenMany m_templateWide m_tooMuch)) := ⟨_, rfl⟩
                        have h139 := h139.keep h80 eG148 (by decide)
                        have h134 := h134.keep h80 eG148 (by decide)
                        have h135 := h135.keep h80 eG148 (by decide)
                        have h136 := h136.keep h80 eG148 (by decide)
                        have h137 := h137.keep h80 eG148 (by decide)
                        have h144 := h144.keep h80 eG148 (by decide)
                        have h138 := h138.keep h80 eG148 (by decide)
                        have h142 := h142.keep h80 eG148 (by decide)
                        have h143 := h143.keep h80 eG148 (by decide)
                        have h140 := h140.keep h80 eG148 (by decide)
                        have h141 := h141.keep h80 eG148 (by decide)
                        have h112 := h112.keep h80 eG148 (by decide)
                        have h114 := h114.keep h80 eG148 (by decide)
                        have h116 := h116.keep h80 eG148 (by decide)
                        have h118 := h118.keep h80 eG148 (by decide)
                        have h119 := h119.keep h80 eG148 (by decide)
                        have h120 := h120.keep h80 eG148 (by decide)
                        have h121 := h121.keep h80 eG148 (by decide)
                        have h122 := h122.keep h80 eG148 (by decide)
                        have h123 := h123.keep h80 eG148 (by decide)
                        have h124 := h124.keep h80 eG148 (by decide)
                        have h85 := h85.keep h80 eG148 (by decide)
                        have h117 := h117.keep h80 eG148 (by decide)
                        have h113 := h113.keep h80 eG148 (by decide)
                        have hlen := (z_len eG148).trans hlen
                        have hsl := (z_sl h80 eG148 rfl).trans hsl
                        have hfr := hfr.wr h80 eG148 (by decide)
                        have h80 := h80.kept eG148
                        change ab_W _ _ _ (List.set G144 80 (ab_ob 12 (mof 0 m_taped m_length m_out w2116 m_gathered m_sets m_ranges m_nodes m_at m_flags m_fault m_place m_numbered m_depth m_value m_isNot m_least0 m_most0 m_slot m_work m_got m_rowMany c2117 cw2118 t2119 0 (A_groupsOf s) m_allFrom m_allBefore m_founds m_pieces m_writtenMany m_templateWide m_tooMuch))) 199 [some (vR 80), some (vz s), none, none, none, none] [] _
                        rw [← eG148]
                        refine ab_aload_n d_MO_match_199 rfl ?_
                        refine ab_getf (fs := mof 0 m_taped m_length m_out w2116 m_gathered m_sets m_ranges m_nodes m_at m_flags m_fault m_place m_numbered m_depth m_value m_isNot m_least0 m_most0 m_slot m_work m_got m_rowMany c2117 cw2118 t2119 0 (A_groupsOf s) m_allFrom m_allBefore m_founds m_pieces m_writtenMany m_templateWide m_tooMuch) f_MO_563 d_MO_match_200 h80.2.2 rfl ?_
                        refine zz_if_eq (tgt := 215) d_MO_match_203 (by decide) (by decide) (fun c149 => ?_) (fun c149 => absurd c149 (by decide))
                        refine zz_iconst d_MO_match_215 ?_
                        refine zz_iret rfl d_MO_match_216 ?_
                        rw [hQ]; exact ⟨_, _, _, _, _, _, _, _, _, _, _, _, _, _, _, _, _, _, _, rfl, hfr, hlen, hsl, h80, h135, h136, h137, h144, h138, h142, h143, h140, h141, h134, h139, (by first | exact hq129 | exact rgs_w hq129 (by omega)), (by first | exact hq130 | exact rgs_w hq130 (by omega)), (by first | exact hq131 | exact rgs_w hq131 (by omega)), (by first | exact hq132 | exact rgs_w hq132 (by omega)), (by first | exact hq133 | exact rgs_w hq133 (by omega)), (by first | exact hq134 | exact rgs_w hq134 (by omega)), (by first | exact hq146 | exact rgs_w hq146 (by omega)), (by omega), (by exact Or.inl ⟨rfl, ⟨(hq4 (by omega)), by omega, by omega, by omega⟩, (fdw_f (by omega) hq135).cg hq147 (by decide), rfl, (fun h => by first | rfl | exact absurd h (by decide)), (fun h => by first | rfl | exact absurd h (by decide))⟩)⟩
                · refine ab_aload_n d_MO_match_63 rfl ?_
                  refine ab_aload_n d_MO_match_64 rfl ?_
                  refine ab_getf (fs := mof 0 m_taped m_length m_out m_wide m_gathered m_sets m_ranges m_nodes m_at m_flags m_fault m_place m_numbered m_depth m_value m_isNot m_least0 m_most0 m_slot m_work m_got m_rowMany m_charAt m_charWide m_trail m_isMatch m_matchGroups m_allFrom m_allBefore m_founds m_pieces m_writtenMany m_templateWide m_tooMuch) f_MO_181 d_MO_match_65 h80.2.2 rfl ?_
                  refine ab_iload_n d_MO_match_68 rfl ?_
                  refine ab_aload_n d_MO_match_69 rfl ?_
                  refine ab_getf (fs := mof 0 m_taped m_length m_out m_wide m_gathered m_sets m_ranges m_nodes m_at m_flags m_fault m_place m_numbered m_depth m_value m_isNot m_least0 m_most0 m_slot m_work m_got m_rowMany m_charAt m_charWide m_trail m_isMatch m_matchGroups m_allFrom m_allBefore m_founds m_pieces m_writtenMany m_templateWide m_tooMuch) f_MO_510 d_MO_match_70 h80.2.2 rfl ?_
                  refine ab_iload d_MO_match_73 rfl ?_
                  refine zz_iconst d_MO_match_75 ?_
                  refine ab_callV (d' := d - 1) (as := [vR 135, vz s, vz m_length, vz fm, vz 1]) (st := []) (r := _) (z_MO_note (o := o) (m_thrown := 0) (m_taped := m_taped) (m_length := m_length) (m_out := m_out) (m_wide := m_wide) (m_gathered := m_gathered) (m_sets := m_sets) (m_ranges := m_ranges) (m_nodes := m_nodes) (m_at := m_at) (m_flags := m_flags) (m_fault := m_fault) (m_place := m_place) (m_numbered := m_numbered) (m_depth := m_depth) (m_value := m_value) (m_isNot := m_isNot) (m_least0 := m_least0) (m_most0 := m_most0) (m_slot := m_slot) (m_work := m_work) (m_got := m_got) (m_rowMany := m_rowMany) (m_charAt := m_charAt) (m_charWide := m_charWide) (m_trail := m_trail) (m_isMatch := m_isMatch) (m_matchGroups := m_matchGroups) (m_allFrom := m_allFrom) (m_allBefore := m_allBefore) (m_founds := m_founds) (m_pieces := m_pieces) (m_writtenMany := m_writtenMany) (m_templateWide := m_templateWide) (m_tooMuch := m_tooMuch) (A_subject := A_subject) (A_stepMany := A_stepMany) (A_step := A_step) (A_next := A_next) (A_more := A_more) (A_classAt := A_classAt) (A_classMany := A_classMany) (A_classLow := A_classLow) (A_classHigh := A_classHigh) (no := 135) (lno := 335) (NO := JU) (Z := ZN) (s := s) (fr := m_length) (to := fm) (al := 1) h80 h135 h137 h118 h119 h120 h121 h122 h123 h124 h85 h117 (by omega) (by omega) (by omega) (by omega) hp5_ jst jcl jch jsb (by omega) jn (by omega)) (fun oc G2 h => by rcases h with ⟨_, _, _, _, _, h, _⟩ <;> exact ⟨_, h⟩) (by omega) m_MO_note ml_MO_559 im_MO_note se_MO_note c_MO h80.2.2 (Nat.le_of_ble_eq_true rfl) d_MO_match_76 rfl ?_
                  intro v G150 hq
                  rcases hq with ⟨NO2151, Z2152, w2153, c2154, cw2155, hv, hfk, hlk, hsk, hN80, hN135, hN137, hq156, hq157, hq158⟩
                  cases hv
                  have h139 := hfk.get h139 (by decide)
                  have h134 := hfk.get h134 (by decide)
                  have h136 := hfk.get h136 (by decide)
                  have h144 := hfk.get h144 (by decide)
                  have h138 := hfk.get h138 (by decide)
                  have h142 := hfk.get h142 (by decide)
                  have h143 := hfk.get h143 (by decide)
                  have h140 := hfk.get h140 (by decide)
                  have h141 := hfk.get h141 (by decide)
                  have h112 := hfk.get h112 (by decide)
                  have h114 := hfk.get h114 (by decide)
                  have h116 := hfk.get h116 (by decide)
                  have h118 := hfk.get h118 (by decide)
                  have h119 := hfk.get h119 (by decide)
                  have h120 := hfk.get h120 (by decide)
                  have h121 := hfk.get h121 (by decide)
                  have h122 := hfk.get h122 (by decide)
                  have h123 := hfk.get h123 (by decide)
                  have h124 := hfk.get h124 (by decide)
                  have h85 := hfk.get h85 (by decide)
                  have h117 := hfk.get h117 (by decide)
                  have h113 := hfk.get h113 (by decide)
                  have hfr := hfr.tr hfk (by decide)
                  have hlen := hlk.trans hlen
                  have hsl := hsk.trans hsl
                  have h80 := hN80
                  have h135 := hN135
                  have h137 := hN137
                  change ab_W _ _ _ G150 79 [some (vR 80), some (vz s), some (vz how), some (vz mc), some (vz fm), none] [] _
                  refine ab_aload_n d_MO_match_79 rfl ?_
                  refine ab_aload_n d_MO_match_80 rfl ?_
                  refine ab_getf (fs := mof 0 m_taped m_length m_out w2153 m_gathered m_sets m_ranges m_nodes m_at m_flags m_fault m_place m_numbered m_depth m_value m_isNot m_least0 m_most0 m_slot m_work m_got m_rowMany c2154 cw2155 m_trail m_isMatch m_matchGroups m_allFrom m_allBefore m_founds m_pieces m_writtenMany m_templateWide m_tooMuch) f_MO_181 d_MO_match_81 h80.2.2 rfl ?_
                  refine ab_iload d_MO_match_84 rfl ?_
                  refine ab_aload_n d_MO_match_86 rfl ?_
                  refine ab_getf (fs := mof 0 m_taped m_length m_out w2153 m_gathered m_sets m_ranges m_nodes m_at m_flags m_fault m_place m_numbered m_depth m_value m_isNot m_least0 m_most0 m_slot m_work m_got m_rowMany c2154 cw2155 m_trail m_isMatch m_matchGroups m_allFrom m_allBefore m_founds m_pieces m_writtenMany m_templateWide m_tooMuch) f_MO_112 d_MO_match_87 h80.2.2 rfl ?_
                  refine ab_iload_n d_MO_match_90 rfl ?_
                  refine zz_iald d_MO_match_91 h113 (by omega) ?_
                  refine ab_callS (d' := d - 1) (as := [vR 135, vz fm, vz (A_entry s)]) (st := [vR 80]) (z_MO_bit (o := o) (a := 135) (l := 335) (A := NO2151) (p := fm) (k := (A_entry s)) h135 (by omega)) (fun oc G2 h => by rcases h with ⟨h, _⟩ | ⟨h, _⟩ <;> exact ⟨_, h⟩) (by omega) m_MO_bit ml_MO_528 st_MO_bit (Nat.le_of_ble_eq_true rfl) d_MO_match_92 rfl ?_
                  intro v G159 hq
                  rcases hq with ⟨hv, hGe, hq160⟩ | ⟨hv, hGe, hq161⟩
                  · cases hv
                    rw [hGe]
                    change ab_W _ _ _ G150 95 [some (vR 80), some (vz s), some (vz how), some (vz mc), some (vz fm), none] [vz 1, vR 80] _
                    refine ab_putf (fs := mof 0 m_taped m_length m_out w2153 m_gathered m_sets m_ranges m_nodes m_at m_flags m_fault m_place m_numbered m_depth m_value m_isNot m_least0 m_most0 m_slot m_work m_got m_rowMany c2154 cw2155 m_trail m_isMatch m_matchGroups m_allFrom m_allBefore m_founds m_pieces m_writtenMany m_templateWide m_tooMuch) f_MO_563 (Or.inl rfl) d_MO_match_95 h80.2.2 (Nat.le_of_ble_eq_true rfl) (ab_fbz (by decide)) (h80.2.1 (by decide)) ?_
                    obtain ⟨G162, eG162⟩ : ∃ z : ab_G, z = List.set G150 80 (ab_ob 12 (mof 0 m_taped m_length m_out w2153 m_gathered m_sets m_ranges m_nodes m_at m_flags m_fault m_place m_numbered m_depth m_value m_isNot m_least0 m_most0 m_slot m_work m_got m_rowMany c2154 cw2155 m_trail 1 m_matchGroups m_allFrom m_allBefore m_founds m_pieces m_writtenMany m_templateWide m_tooMuch)) := ⟨_, rfl⟩
                    have h139 := h139.keep h80 eG162 (by decide)
                    have h134 := h134.keep h80 eG162 (by decide)
                    have h135 := h135.keep h80 eG162 (by decide)
                    have h136 := h136.keep h80 eG162 (by decide)
                    have h137 := h137.keep h80 eG162 (by decide)
                    have h144 := h144.keep h80 eG162 (by decide)
                    have h138 := h138.keep h80 eG162 (by decide)
                    have h142 := h142.keep h80 eG162 (by decide)
                    have h143 := h143.keep h80 eG162 (by decide)
                    have h140 := h140.keep h80 eG162 (by decide)
                    have h141 := h141.keep h80 eG162 (by decide)
                    have h112 := h112.keep h80 eG162 (by decide)
                    have h114 := h114.keep h80 eG162 (by decide)
                    have h116 := h116.keep h80 eG162 (by decide)
                    have h118 := h118.keep h80 eG162 (by decide)
                    have h119 := h119.keep h80 eG162 (by decide)
                    have h120 := h120.keep h80 eG162 (by decide)
                    have h121 := h121.keep h80 eG162 (by decide)
                    have h122 := h122.keep h80 eG162 (by decide)
                    have h123 := h123.keep h80 eG162 (by decide)
                    have h124 := h124.keep h80 eG162 (by decide)
                    have h85 := h85.keep h80 eG162 (by decide)
                    have h117 := h117.keep h80 eG162 (by decide)
                    have h113 := h113.keep h80 eG162 (by decide)
                    have hlen := (z_len eG162).trans hlen
                    have hsl := (z_sl h80 eG162 rfl).trans hsl
                    have hfr := hfr.wr h80 eG162 (by decide)
                    have h80 := h80.kept eG162
                    change ab_W _ _ _ (List.set G150 80 (ab_ob 12 (mof 0 m_taped m_length m_out w2153 m_gathered m_sets m_ranges m_nodes m_at m_flags m_fault m_place m_numbered m_depth m_value m_isNot m_least0 m_most0 m_slot m_work m_got m_rowMany c2154 cw2155 m_trail 1 m_matchGroups m_allFrom m_allBefore m_founds m_pieces m_writtenMany m_templateWide m_tooMuch))) 98 [some (vR 80), some (vz s), some (vz how), some (vz mc), some (vz fm), none] [] _
                    rw [← eG162]
                    refine ab_aload_n d_MO_match_98 rfl ?_
                    refine ab_getf (fs := mof 0 m_taped m_length m_out w2153 m_gathered m_sets m_ranges m_nodes m_at m_flags m_fault m_place m_numbered m_depth m_value m_isNot m_least0 m_most0 m_slot m_work m_got m_rowMany c2154 cw2155 m_trail 1 m_matchGroups m_allFrom m_allBefore m_founds m_pieces m_writtenMany m_templateWide m_tooMuch) f_MO_563 d_MO_match_99 h80.2.2 rfl ?_
                    refine zz_if_eq (tgt := 159) d_MO_match_102 (by decide) (by decide) (fun c163 => absurd c163 (by decide)) (fun c163 => ?_)
                    refine ab_aload_n d_MO_match_105 rfl ?_
                    refine ab_aload_n d_MO_match_106 rfl ?_
                    refine ab_getf (fs := mof 0 m_taped m_length m_out w2153 m_gathered m_sets m_ranges m_nodes m_at m_flags m_fault m_place m_numbered m_depth m_value m_isNot m_least0 m_most0 m_slot m_work m_got m_rowMany c2154 cw2155 m_trail 1 m_matchGroups m_allFrom m_allBefore m_founds m_pieces m_writtenMany m_templateWide m_tooMuch) f_MO_181 d_MO_match_107 h80.2.2 rfl ?_
                    refine ab_iload_n d_MO_match_110 rfl ?_
                    refine ab_iload d_MO_match_111 rfl ?_
                    refine ab_aload_n d_MO_match_113 rfl ?_
                    refine ab_getf (fs := mof 0 m_taped m_length m_out w2153 m_gathered m_sets m_ranges m_nodes m_at m_flags m_fault m_place m_numbered m_depth m_value m_isNot m_least0 m_most0 m_slot m_work m_got m_rowMany c2154 cw2155 m_trail 1 m_matchGroups m_allFrom m_allBefore m_founds m_pieces m_writtenMany m_templateWide m_tooMuch) f_MO_510 d_MO_match_114 h80.2.2 rfl ?_
                    refine ab_callV (d' := d - 1) (as := [vR 135, vz s, vz fm, vz m_length]) (st := []) (r := _) (z_MO_walk (o := o) (m_thrown := 0) (m_taped := m_taped) (m_length := m_length) (m_out := m_out) (m_wide := w2153) (m_gathered := m_gathered) (m_sets := m_sets) (m_ranges := m_ranges) (m_nodes := m_nodes) (m_at := m_at) (m_flags := m_flags) (m_fault := m_fault) (m_place := m_place) (m_numbered := m_numbered) (m_depth := m_depth) (m_value := m_value) (m_isNot := m_isNot) (m_least0 := m_least0) (m_most0 := m_most0) (m_slot := m_slot) (m_work := m_work) (m_got := m_got) (m_rowMany := m_rowMany) (m_charAt := c2154) (m_charWide := cw2155) (m_trail := m_trail) (m_isMatch := 1) (m_matchGroups := m_matchGroups) (m_allFrom := m_allFrom) (m_allBefore := m_allBefore) (m_founds := m_founds) (m_pieces := m_pieces) (m_writtenMany := m_writtenMany) (m_templateWide := m_templateWide) (m_tooMuch := m_tooMuch) (A_subject := A_subject) (A_stepMany := A_stepMany) (A_step := A_step) (A_next := A_next) (A_more := A_more) (A_classAt := A_classAt) (A_classMany := A_classMany) (A_classLow := A_classLow) (A_classHigh := A_classHigh) (no := 135) (lno := 335) (NO := NO2151) (Z := ZS) (s := s) (fr := m_length) (to := fm) (al := 1) (SP := SP) (PL := PL) (PT := PT) (TS := TS) (TO := TO) (ls := m_length) (fm := fm) (hw9 := 2) (S9 := (fA 2 m_length (wyR (V6 s) A_subject m_length fm))) (A_entry := A_entry) h80 h138 h142 h143 h140 h141 h144 h135 h118 h119 h120 h121 h122 h123 h124 h85 h117 h113 (by omega) (by omega) (by omega) (by omega) hp5_ jst jcl jch jsb (fun h => by omega) (fun _ => ⟨rfl, rfl⟩) (by omega) hq157 (ntK_of (fun k a c => jsb k a (by omega)) hp5_ hq157 hq158 (by omega) (by omega)) (Or.inr ⟨rfl, rfl⟩) (by omega) hq160 jse jsp jpt jts jto (gn0_w hp6_ (fun k a c => jsb k a (by omega)) (by omega)) (by omega)) (fun oc G2 h => by rcases h with ⟨_, _, _, _, _, _, _, _, _, _, _, h, _⟩ <;> exact ⟨_, h⟩) (by omega) m_MO_walk ml_MO_552 im_MO_walk se_MO_walk c_MO h80.2.2 (Nat.le_of_ble_eq_true rfl) d_MO_match_117 rfl ?_
                    intro v G164 hq
                    rcases hq with ⟨p2165, w2166, c2167, cw2168, t2169, Z2170, SP2171, PL2172, PT2173, TS2174, TO2175, hv, hfk, hlk, hsk, hN80, hN138, hN142, hN143, hN140, hN141, hN144, hq176, hq177, hq178, hq179, hq180, hq181, hq182, hq183, hq184⟩
                    cases hv
                    have h139 := hfk.get h139 (by decide)
                    have h134 := hfk.get h134 (by decide)
                    have h135 := hfk.get h135 (by decide)
                    have h136 := hfk.get h136 (by decide)
                    have h137 := hfk.get h137 (by decide)
                    have h112 := hfk.get h112 (by decide)
                    have h114 := hfk.get h114 (by decide)
                    have h116 := hfk.get h116 (by decide)
                    have h118 := hfk.get h118 (by decide)
                    have h119 := hfk.get h119 (by decide)
                    have h120 := hfk.get h120 (by decide)
                    have h121 := hfk.get h121 (by decide)
                    have h122 := hfk.get h122 (by decide)
                    have h123 := hfk.get h123 (by decide)
                    have h124 := hfk.get h124 (by decide)
                    have h85 := hfk.get h85 (by decide)
                    have h117 := hfk.get h117 (by decide)
                    have h113 := hfk.get h113 (by decide)
                    have hfr := hfr.tr hfk (by decide)
                    have hlen := hlk.trans hlen
                    have hsl := hsk.trans hsl
                    have h80 := hN80
                    have h138 := hN138
                    have h142 := hN142
                    have h143 := hN143
                    have h140 := hN140
                    have h141 := hN141
                    have h144 := hN144
                    change ab_W _ _ _ G164 120 [some (vR 80), some (vz s), some (vz how), some (vz mc), some (vz fm), none] [] _
                    refine ab_goto (tgt := 159) d_MO_match_120 (by decide) ?_
                    refine zz_iconst d_MO_match_159 ?_
                    refine ab_istore d_MO_match_160 (Nat.le_of_ble_eq_true rfl) (Nat.le_of_ble_eq_true rfl) rfl ?_
                    change ab_W _ _ _ G164 162 [some (vR 80), some (vz s), some (vz how), some (vz mc), some (vz fm), some (vz 0)] [] _
                    refine ab_less (L' := [some (vR 80), some (vz s), none, none, none, some (vz 0)]) (fun i v h => by rcases i with _ | _ | _ | _ | _ | _ | i <;> first | exact h | (simp at h)) ?_
                    refine y_MO_match_162 (m_thrown := 0) (m_taped := m_taped) (m_length := m_length) (m_out := m_out) (m_wide := w2166) (m_gathered := m_gathered) (m_sets := m_sets) (m_ranges := m_ranges) (m_nodes := m_nodes) (m_at := m_at) (m_flags := m_flags) (m_fault := m_fault) (m_place := m_place) (m_numbered := m_numbered) (m_depth := m_depth) (m_value := m_value) (m_isNot := m_isNot) (m_least0 := m_least0) (m_most0 := m_most0) (m_slot := m_slot) (m_work := m_work) (m_got := m_got) (m_rowMany := m_rowMany) (m_charAt := c2167) (m_charWide := cw2168) (m_trail := t2169) (m_isMatch := 1) (m_matchGroups := m_matchGroups) (m_allFrom := m_allFrom) (m_allBefore := m_allBefore) (m_founds := m_founds) (m_pieces := m_pieces) (m_writtenMany := m_writtenMany) (m_templateWide := m_templateWide) (m_tooMuch := m_tooMuch) (SP := SP2171) (s := s) (G0 := G164) (i_ := 0) (KE := KE) (by omega) hq176 (by omega) (Int.toNat (20 - 0) + 1) h80 h138 h139 (by omega) jke spE_0 fx.rf rfl rfl (by omega) (fun G185 KE2186 hN139 hq187 hq188 hfk hlk hsk => ?_)
                    · have h80 := hfk.get h80 (by decide)
                      have h134 := hfk.get h134 (by decide)
                      have h135 := hfk.get h135 (by decide)
                      have h136 := hfk.get h136 (by decide)
                      have h137 := hfk.get h137 (by decide)
                      have h144 := hfk.get h144 (by decide)
                      have h138 := hfk.get h138 (by decide)
                      have h142 := hfk.get h142 (by decide)
                      have h143 := hfk.get h143 (by decide)
                      have h140 := hfk.get h140 (by decide)
                      have h141 := hfk.get h141 (by decide)
                      have h112 := hfk.get h112 (by decide)
                      have h114 := hfk.get h114 (by decide)
                      have h116 := hfk.get h116 (by decide)
                      have h118 := hfk.get h118 (by decide)
                      have h119 := hfk.get h119 (by decide)
                      have h120 := hfk.get h120 (by decide)
                      have h121 := hfk.get h121 (by decide)
                      have h122 := hfk.get h122 (by decide)
                      have h123 := hfk.get h123 (by decide)
                      have h124 := hfk.get h124 (by decide)
                      have h85 := hfk.get h85 (by decide)
                      have h117 := hfk.get h117 (by decide)
                      have h113 := hfk.get h113 (by decide)
                      have hfr := hfr.tr hfk (by decide)
                      have hlen := hlk.trans hlen
                      have hsl := hsk.trans hsl
                      have h139 := hN139
                      change ab_W _ _ _ G185 189 [some (vR 80), some (vz s), none, none, none, none] [] _
                      refine ab_aload_n d_MO_match_189 rfl ?_
                      refine ab_aload_n d_MO_match_190 rfl ?_
                      refine ab_getf (fs := mof 0 m_taped m_length m_out w2166 m_gathered m_sets m_ranges m_nodes m_at m_flags m_fault m_place m_numbered m_depth m_value m_isNot m_least0 m_most0 m_slot m_work m_got m_rowMany c2167 cw2168 t2169 1 m_matchGroups m_allFrom m_allBefore m_founds m_pieces m_writtenMany m_templateWide m_tooMuch) f_MO_115 d_MO_match_191 h80.2.2 rfl ?_
                      refine ab_iload_n d_MO_match_194 rfl ?_
                      refine zz_iald d_MO_match_195 h114 (by omega) ?_
                      refine ab_putf (fs := mof 0 m_taped m_length m_out w2166 m_gathered m_sets m_ranges m_nodes m_at m_flags m_fault m_place m_numbered m_depth m_value m_isNot m_least0 m_most0 m_slot m_work m_got m_rowMany c2167 cw2168 t2169 1 m_matchGroups m_allFrom m_allBefore m_founds m_pieces m_writtenMany m_templateWide m_tooMuch) f_MO_570 (Or.inl rfl) d_MO_match_196 h80.2.2 (Nat.le_of_ble_eq_true rfl) (fun _ => ⟨rfl, rfl⟩) (h80.2.1 (by decide)) ?_
                      obtain ⟨G189, eG189⟩ : ∃ z : ab_G, z = List.set G185 80 (ab_ob 12 (mof 0 m_taped m_length m_out w2166 m_gathered m_sets m_ranges m_nodes m_at m_flags m_fault m_place m_numbered m_depth m_value m_isNot m_least0 m_most0 m_slot m_work m_got m_rowMany c2167 cw2168 t2169 1 (A_groupsOf s) m_allFrom m_allBefore m_founds m_pieces m_writtenMany m_templateWide m_tooMuch)) := ⟨_, rfl⟩
                      have h139 := h139.keep h80 eG189 (by decide)
                      have h134 := h134.keep h80 eG189 (by decide)
                      have h135 := h135.keep h80 eG189 (by decide)
                      have h136 := h136.keep h80 eG189 (by decide)
                      have h137 := h137.keep h80 eG189 (by decide)
                      have h144 := h144.keep h80 eG189 (by decide)
                      have h138 := h138.keep h80 eG189 (by decide)
                      have h142 := h142.keep h80 eG189 (by decide)
                      have h143 := h143.keep h80 eG189 (by decide)
                      have h140 := h140.keep h80 eG189 (by decide)
                      have h141 := h141.keep h80 eG189 (by decide)
                      have h112 := h112.keep h80 eG189 (by decide)
                      have h114 := h114.keep h80 eG189 (by decide)
                      have h116 := h116.keep h80 eG189 (by decide)
                      have h118 := h118.keep h80 eG189 (by decide)
                      have h119 := h119.keep h80 eG189 (by decide)
                      have h120 := h120.keep h80 eG189 (by decide)
                      have h121 := h121.keep h80 eG189 (by decide)
                      have h122 := h122.keep h80 eG189 (by decide)
                      have h123 := h123.keep h80 eG189 (by decide)
                      have h124 := h124.keep h80 eG189 (by decide)
                      have h85 := h85.keep h80 eG189 (by decide)
                      have h117 := h117.keep h80 eG189 (by decide)
                      have h113 := h113.keep h80 eG189 (by decide)
                      have hlen := (z_len eG189).trans hlen
                      have hsl := (z_sl h80 eG189 rfl).trans hsl
                      have hfr := hfr.wr h80 eG189 (by decide)
                      have h80 := h80.kept eG189
                      change ab_W _ _ _ (List.set G185 80 (ab_ob 12 (mof 0 m_taped m_length m_out w2166 m_gathered m_sets m_ranges m_nodes m_at m_flags m_fault m_place m_numbered m_depth m_value m_isNot m_least0 m_most0 m_slot m_work m_got m_rowMany c2167 cw2168 t2169 1 (A_groupsOf s) m_allFrom m_allBefore m_founds m_pieces m_writtenMany m_templateWide m_tooMuch))) 199 [some (vR 80), some (vz s), none, none, none, none] [] _
                      rw [← eG189]
                      refine ab_aload_n d_MO_match_199 rfl ?_
                      refine ab_getf (fs := mof 0 m_taped m_length m_out w2166 m_gathered m_sets m_ranges m_nodes m_at m_flags m_fault m_place m_numbered m_depth m_value m_isNot m_least0 m_most0 m_slot m_work m_got m_rowMany c2167 cw2168 t2169 1 (A_groupsOf s) m_allFrom m_allBefore m_founds m_pieces m_writtenMany m_templateWide m_tooMuch) f_MO_563 d_MO_match_200 h80.2.2 rfl ?_
                      refine zz_if_eq (tgt := 215) d_MO_match_203 (by decide) (by decide) (fun c190 => absurd c190 (by decide)) (fun c190 => ?_)
                      refine ab_aload_n d_MO_match_206 rfl ?_
                      refine ab_getf (fs := mof 0 m_taped m_length m_out w2166 m_gathered m_sets m_ranges m_nodes m_at m_flags m_fault m_place m_numbered m_depth m_value m_isNot m_least0 m_most0 m_slot m_work m_got m_rowMany c2167 cw2168 t2169 1 (A_groupsOf s) m_allFrom m_allBefore m_founds m_pieces m_writtenMany m_templateWide m_tooMuch) f_MO_193 d_MO_match_207 h80.2.2 rfl ?_
                      refine zz_iconst d_MO_match_210 ?_
                      refine zz_iald d_MO_match_211 h139 (by omega) ?_
                      refine ab_goto (tgt := 216) d_MO_match_212 (by decide) ?_
                      refine zz_iret rfl d_MO_match_216 ?_
                      rw [hQ]; exact ⟨_, _, _, _, _, _, _, _, _, _, _, _, _, _, _, _, _, _, _, rfl, hfr, hlen, hsl, h80, h135, h136, h137, h144, h138, h142, h143, h140, h141, h134, h139, (by first | exact hq156 | exact rgs_w hq156 (by omega)), (by first | exact hq180 | exact rgs_w hq180 (by omega)), (by first | exact hq176 | exact rgs_w hq176 (by omega)), (by first | exact hq177 | exact rgs_w hq177 (by omega)), (by first | exact hq178 | exact rgs_w hq178 (by omega)), (by first | exact hq179 | exact rgs_w hq179 (by omega)), (by first | exact hq187 | exact rgs_w hq187 (by omega)), (by omega), (by exact Or.inl ⟨rfl, ⟨(hq4 (by omega)), by omega, by omega, by omega⟩, (fdw_y (by omega) hq184 (by omega)).cg hq188 (by decide), rfl, (fun h => by first | rfl | exact absurd h (by decide)), (fun h => by first | rfl | exact absurd h (by decide))⟩)⟩
                  · cases hv
                    rw [hGe]
                    change ab_W _ _ _ G150 95 [some (vR 80), some (vz s), some (vz how), some (vz mc), some (vz fm), none] [vz 0, vR 80] _
                    refine ab_putf (fs := mof 0 m_taped m_length m_out w2153 m_gathered m_sets m_ranges m_nodes m_at m_flags m_fault m_place m_numbered m_depth m_value m_isNot m_least0 m_most0 m_slot m_work m_got m_rowMany c2154 cw2155 m_trail m_isMatch m_matchGroups m_allFrom m_allBefore m_founds m_pieces m_writtenMany m_templateWide m_tooMuch) f_MO_563 (Or.inl rfl) d_MO_match_95 h80.2.2 (Nat.le_of_ble_eq_true rfl) (ab_fbz (by decide)) (h80.2.1 (by decide)) ?_
                    obtain ⟨G191, eG191⟩ : ∃ z : ab_G, z = List.set G150 80 (ab_ob 12 (mof 0 m_taped m_length m_out w2153 m_gathered m_sets m_ranges m_nodes m_at m_flags m_fault m_place m_numbered m_depth m_value m_isNot m_least0 m_most0 m_slot m_work m_got m_rowMany c2154 cw2155 m_trail 0 m_matchGroups m_allFrom m_allBefore m_founds m_pieces m_writtenMany m_templateWide m_tooMuch)) := ⟨_, rfl⟩
                    have h139 := h139.keep h80 eG191 (by decide)
                    have h134 := h134.keep h80 eG191 (by decide)
                    have h135 := h135.keep h80 eG191 (by decide)
                    have h136 := h136.keep h80 eG191 (by decide)
                    have h137 := h137.keep h80 eG191 (by decide)
                    have h144 := h144.keep h80 eG191 (by decide)
                    have h138 := h138.keep h80 eG191 (by decide)
                    have h142 := h142.keep h80 eG191 (by decide)
                    have h143 := h143.keep h80 eG191 (by decide)
                    have h140 := h140.keep h80 eG191 (by decide)
                    have h141 := h141.keep h80 eG191 (by decide)
                    have h112 := h112.keep h80 eG191 (by decide)
                    have h114 := h114.keep h80 eG191 (by decide)
                    have h116 := h116.keep h80 eG191 (by decide)
                    have h118 := h118.keep h80 eG191 (by decide)
                    have h119 := h119.keep h80 eG191 (by decide)
                    have h120 := h120.keep h80 eG191 (by decide)
                    have h121 := h121.keep h80 eG191 (by decide)
                    have h122 := h122.keep h80 eG191 (by decide)
                    have h123 := h123.keep h80 eG191 (by decide)
                    have h124 := h124.keep h80 eG191 (by decide)
                    have h85 := h85.keep h80 eG191 (by decide)
                    have h117 := h117.keep h80 eG191 (by decide)
                    have h113 := h113.keep h80 eG191 (by decide)
                    have hlen := (z_len eG191).trans hlen
                    have hsl := (z_sl h80 eG191 rfl).trans hsl
                    have hfr := hfr.wr h80 eG191 (by decide)
                    have h80 := h80.kept eG191
                    change ab_W _ _ _ (List.set G150 80 (ab_ob 12 (mof 0 m_taped m_length m_out w2153 m_gathered m_sets m_ranges m_nodes m_at m_flags m_fault m_place m_numbered m_depth m_value m_isNot m_least0 m_most0 m_slot m_work m_got m_rowMany c2154 cw2155 m_trail 0 m_matchGroups m_allFrom m_allBefore m_founds m_pieces m_writtenMany m_templateWide m_tooMuch))) 98 [some (vR 80), some (vz s), some (vz how), some (vz mc), some (vz fm), none] [] _
                    rw [← eG191]
                    refine ab_aload_n d_MO_match_98 rfl ?_
                    refine ab_getf (fs := mof 0 m_taped m_length m_out w2153 m_gathered m_sets m_ranges m_nodes m_at m_flags m_fault m_place m_numbered m_depth m_value m_isNot m_least0 m_most0 m_slot m_work m_got m_rowMany c2154 cw2155 m_trail 0 m_matchGroups m_allFrom m_allBefore m_founds m_pieces m_writtenMany m_templateWide m_tooMuch) f_MO_563 d_MO_match_99 h80.2.2 rfl ?_
                    refine zz_if_eq (tgt := 159) d_MO_match_102 (by decide) (by decide) (fun c192 => ?_) (fun c192 => absurd c192 (by decide))
                    refine zz_iconst d_MO_match_159 ?_
                    refine ab_istore d_MO_match_160 (Nat.le_of_ble_eq_true rfl) (Nat.le_of_ble_eq_true rfl) rfl ?_
                    change ab_W _ _ _ G191 162 [some (vR 80), some (vz s), some (vz how), some (vz mc), some (vz fm), some (vz 0)] [] _
                    refine ab_less (L' := [some (vR 80), some (vz s), none, none, none, some (vz 0)]) (fun i v h => by rcases i with _ | _ | _ | _ | _ | _ | i <;> first | exact h | (simp at h)) ?_
                    refine y_MO_match_162 (m_thrown := 0) (m_taped := m_taped) (m_length := m_length) (m_out := m_out) (m_wide := w2153) (m_gathered := m_gathered) (m_sets := m_sets) (m_ranges := m_ranges) (m_nodes := m_nodes) (m_at := m_at) (m_flags := m_flags) (m_fault := m_fault) (m_place := m_place) (m_numbered := m_numbered) (m_depth := m_depth) (m_value := m_value) (m_isNot := m_isNot) (m_least0 := m_least0) (m_most0 := m_most0) (m_slot := m_slot) (m_work := m_work) (m_got := m_got) (m_rowMany := m_rowMany) (m_charAt := c2154) (m_charWide := cw2155) (m_trail := m_trail) (m_isMatch := 0) (m_matchGroups := m_matchGroups) (m_allFrom := m_allFrom) (m_allBefore := m_allBefore) (m_founds := m_founds) (m_pieces := m_pieces) (m_writtenMany := m_writtenMany) (m_templateWide := m_templateWide) (m_tooMuch := m_tooMuch) (SP := SP) (s := s) (G0 := G191) (i_ := 0) (KE := KE) (by omega) jsp (by omega) (Int.toNat (20 - 0) + 1) h80 h138 h139 (by omega) jke spE_0 fx.rf rfl rfl (by omega) (fun G193 KE2194 hN139 hq195 hq196 hfk hlk hsk => ?_)
                    · have h80 := hfk.get h80 (by decide)
                      have h134 := hfk.get h134 (by decide)
                      have h135 := hfk.get h135 (by decide)
                      have h136 := hfk.get h136 (by decide)
                      have h137 := hfk.get h137 (by decide)
                      have h144 := hfk.get h144 (by decide)
                      have h138 := hfk.get h138 (by decide)
                      have h142 := hfk.get h142 (by decide)
                      have h143 := hfk.get h143 (by decide)
                      have h140 := hfk.get h140 (by decide)
                      have h141 := hfk.get h141 (by decide)
                      have h112 := hfk.get h112 (by decide)
                      have h114 := hfk.get h114 (by decide)
                      have h116 := hfk.get h116 (by decide)
                      have h118 := hfk.get h118 (by decide)
                      have h119 := hfk.get h119 (by decide)
                      have h120 := hfk.get h120 (by decide)
                      have h121 := hfk.get h121 (by decide)
                      have h122 := hfk.get h122 (by decide)
                      have h123 := hfk.get h123 (by decide)
                      have h124 := hfk.get h124 (by decide)
                      have h85 := hfk.get h85 (by decide)
                      have h117 := hfk.get h117 (by decide)
                      have h113 := hfk.get h113 (by decide)
                      have hfr := hfr.tr hfk (by decide)
                      have hlen := hlk.trans hlen
                      have hsl := hsk.trans hsl
                      have h139 := hN139
                      change ab_W _ _ _ G193 189 [some (vR 80), some (vz s), none, none, none, none] [] _
                      refine ab_aload_n d_MO_match_189 rfl ?_
                      refine ab_aload_n d_MO_match_190 rfl ?_
                      refine ab_getf (fs := mof 0 m_taped m_length m_out w2153 m_gathered m_sets m_ranges m_nodes m_at m_flags m_fault m_place m_numbered m_depth m_value m_isNot m_least0 m_most0 m_slot m_work m_got m_rowMany c2154 cw2155 m_trail 0 m_matchGroups m_allFrom m_allBefore m_founds m_pieces m_writtenMany m_templateWide m_tooMuch) f_MO_115 d_MO_match_191 h80.2.2 rfl ?_
                      refine ab_iload_n d_MO_match_194 rfl ?_
                      refine zz_iald d_MO_match_195 h114 (by omega) ?_
                      refine ab_putf (fs := mof 0 m_taped m_length m_out w2153 m_gathered m_sets m_ranges m_nodes m_at m_flags m_fault m_place m_numbered m_depth m_value m_isNot m_least0 m_most0 m_slot m_work m_got m_rowMany c2154 cw2155 m_trail 0 m_matchGroups m_allFrom m_allBefore m_founds m_pieces m_writtenMany m_templateWide m_tooMuch) f_MO_570 (Or.inl rfl) d_MO_match_196 h80.2.2 (Nat.le_of_ble_eq_true rfl) (fun _ => ⟨rfl, rfl⟩) (h80.2.1 (by decide)) ?_
                      obtain ⟨G197, eG197⟩ : ∃ z : ab_G, z = List.set G193 80 (ab_ob 12 (mof 0 m_taped m_length m_out w2153 m_gathered m_sets m_ranges m_nodes m_at m_flags m_fault m_place m_numbered m_depth m_value m_isNot m_least0 m_most0 m_slot m_work m_got m_rowMany c2154 cw2155 m_trail 0 (A_groupsOf s) m_allFrom m_allBefore m_founds m_pieces m_writtenMany m_templateWide m_tooMuch)) := ⟨_, rfl⟩
                      have h139 := h139.keep h80 eG197 (by decide)
                      have h134 := h134.keep h80 eG197 (by decide)
                      have h135 := h135.keep h80 eG197 (by decide)
                      have h136 := h136.keep h80 eG197 (by decide)
                      have h137 := h137.keep h80 eG197 (by decide)
                      have h144 := h144.keep h80 eG197 (by decide)
                      have h138 := h138.keep h80 eG197 (by decide)
                      have h142 := h142.keep h80 eG197 (by decide)
                      have h143 := h143.keep h80 eG197 (by decide)
                      have h140 := h140.keep h80 eG197 (by decide)
                      have h141 := h141.keep h80 eG197 (by decide)
                      have h112 := h112.keep h80 eG197 (by decide)
                      have h114 := h114.keep h80 eG197 (by decide)
                      have h116 := h116.keep h80 eG197 (by decide)
                      have h118 := h118.keep h80 eG197 (by decide)
                      have h119 := h119.keep h80 eG197 (by decide)
                      have h120 := h120.keep h80 eG197 (by decide)
                      have h121 := h121.keep h80 eG197 (by decide)
                      have h122 := h122.keep h80 eG197 (by decide)
                      have h123 := h123.keep h80 eG197 (by decide)
                      have h124 := h124.keep h80 eG197 (by decide)
                      have h85 := h85.keep h80 eG197 (by decide)
                      have h117 := h117.keep h80 eG197 (by decide)
                      have h113 := h113.keep h80 eG197 (by decide)
                      have hlen := (z_len eG197).trans hlen
                      have hsl := (z_sl h80 eG197 rfl).trans hsl
                      have hfr := hfr.wr h80 eG197 (by decide)
                      have h80 := h80.kept eG197
                      change ab_W _ _ _ (List.set G193 80 (ab_ob 12 (mof 0 m_taped m_length m_out w2153 m_gathered m_sets m_ranges m_nodes m_at m_flags m_fault m_place m_numbered m_depth m_value m_isNot m_least0 m_most0 m_slot m_work m_got m_rowMany c2154 cw2155 m_trail 0 (A_groupsOf s) m_allFrom m_allBefore m_founds m_pieces m_writtenMany m_templateWide m_tooMuch))) 199 [some (vR 80), some (vz s), none, none, none, none] [] _
                      rw [← eG197]
                      refine ab_aload_n d_MO_match_199 rfl ?_
                      refine ab_getf (fs := mof 0 m_taped m_length m_out w2153 m_gathered m_sets m_ranges m_nodes m_at m_flags m_fault m_place m_numbered m_depth m_value m_isNot m_least0 m_most0 m_slot m_work m_got m_rowMany c2154 cw2155 m_trail 0 (A_groupsOf s) m_allFrom m_allBefore m_founds m_pieces m_writtenMany m_templateWide m_tooMuch) f_MO_563 d_MO_match_200 h80.2.2 rfl ?_
                      refine zz_if_eq (tgt := 215) d_MO_match_203 (by decide) (by decide) (fun c198 => ?_) (fun c198 => absurd c198 (by decide))
                      refine zz_iconst d_MO_match_215 ?_
                      refine zz_iret rfl d_MO_match_216 ?_
                      rw [hQ]; exact ⟨_, _, _, _, _, _, _, _, _, _, _, _, _, _, _, _, _, _, _, rfl, hfr, hlen, hsl, h80, h135, h136, h137, h144, h138, h142, h143, h140, h141, h134, h139, (by first | exact hq156 | exact rgs_w hq156 (by omega)), (by first | exact jse | exact rgs_w jse (by omega)), (by first | exact jsp | exact rgs_w jsp (by omega)), (by first | exact jpt | exact rgs_w jpt (by omega)), (by first | exact jts | exact rgs_w jts (by omega)), (by first | exact jto | exact rgs_w jto (by omega)), (by first | exact hq195 | exact rgs_w hq195 (by omega)), (by omega), (by exact Or.inl ⟨rfl, ⟨(hq4 (by omega)), by omega, by omega, by omega⟩, (fdw_n (by omega) (ntK_of (fun k a c => jsb k a (by omega)) hp5_ hq157 hq158 (by omega) (by omega)) hp6_ (fun k a c => jsb k a (by omega)) (by omega) (by omega) hq161).cg hq196 (by decide), rfl, (fun h => by first | rfl | exact absurd h (by decide)), (fun h => by first | rfl | exact absurd h (by decide))⟩)⟩
              · refine zz_iconst d_MO_match_41 ?_
                refine ab_goto (tgt := 46) d_MO_match_42 (by decide) ?_
                refine ab_putf (fs := mof m_thrown m_taped m_length m_out m_wide m_gathered m_sets m_ranges m_nodes m_at m_flags m_fault m_place m_numbered m_depth m_value m_isNot m_least0 m_most0 m_slot m_work m_got m_rowMany m_charAt m_charWide m_trail m_isMatch m_matchGroups m_allFrom m_allBefore m_founds m_pieces m_writtenMany m_templateWide m_tooMuch) f_MO_220 (Or.inl rfl) d_MO_match_46 h80.2.2 (Nat.le_of_ble_eq_true rfl) (fun _ => ⟨rfl, rfl⟩) (h80.2.1 (by decide)) ?_
                obtain ⟨G199, eG199⟩ : ∃ z : ab_G, z = List.set G 80 (ab_ob 12 (mof 1 m_taped m_length m_out m_wide m_gathered m_sets m_ranges m_nodes m_at m_flags m_fault m_place m_numbered m_depth m_value m_isNot m_least0 m_most0 m_slot m_work m_got m_rowMany m_charAt m_charWide m_trail m_isMatch m_matchGroups m_allFrom m_allBefore m_founds m_pieces m_writtenMany m_templateWide m_tooMuch)) := ⟨_, rfl⟩
                have h139 := h139.keep h80 eG199 (by decide)
                have h134 := h134.keep h80 eG199 (by decide)
                have h135 := h135.keep h80 eG199 (by decide)
                have h136 := h136.keep h80 eG199 (by decide)
                have h137 := h137.keep h80 eG199 (by decide)
                have h144 := h144.keep h80 eG199 (by decide)
                have h138 := h138.keep h80 eG199 (by decide)
                have h142 := h142.keep h80 eG199 (by decide)
                have h143 := h143.keep h80 eG199 (by decide)
                have h140 := h140.keep h80 eG199 (by decide)
                have h141 := h141.keep h80 eG199 (by decide)
                have h112 := h112.keep h80 eG199 (by decide)
                have h114 := h114.keep h80 eG199 (by decide)
                have h116 := h116.keep h80 eG199 (by decide)
                have h118 := h118.keep h80 eG199 (by decide)
                have h119 := h119.keep h80 eG199 (by decide)
                have h120 := h120.keep h80 eG199 (by decide)
                have h121 := h121.keep h80 eG199 (by decide)
                have h122 := h122.keep h80 eG199 (by decide)
                have h123 := h123.keep h80 eG199 (by decide)
                have h124 := h124.keep h80 eG199 (by decide)
                have h85 := h85.keep h80 eG199 (by decide)
                have h117 := h117.keep h80 eG199 (by decide)
                have h113 := h113.keep h80 eG199 (by decide)
                have hlen := (z_len eG199).trans hlen
                have hsl := (z_sl h80 eG199 rfl).trans hsl
                have hfr := hfr.wr h80 eG199 (by decide)
                have h80 := h80.kept eG199
                change ab_W _ _ _ (List.set G 80 (ab_ob 12 (mof 1 m_taped m_length m_out m_wide m_gathered m_sets m_ranges m_nodes m_at m_flags m_fault m_place m_numbered m_depth m_value m_isNot m_least0 m_most0 m_slot m_work m_got m_rowMany m_charAt m_charWide m_trail m_isMatch m_matchGroups m_allFrom m_allBefore m_founds m_pieces m_writtenMany m_templateWide m_tooMuch))) 49 [some (vR 80), some (vz s), some (vz how), some (vz mc), some (vz fm), none] [] _
                rw [← eG199]
                refine ab_aload_n d_MO_match_49 rfl ?_
                refine ab_getf (fs := mof 1 m_taped m_length m_out m_wide m_gathered m_sets m_ranges m_nodes m_at m_flags m_fault m_place m_numbered m_depth m_value m_isNot m_least0 m_most0 m_slot m_work m_got m_rowMany m_charAt m_charWide m_trail m_isMatch m_matchGroups m_allFrom m_allBefore m_founds m_pieces m_writtenMany m_templateWide m_tooMuch) f_MO_220 d_MO_match_50 h80.2.2 rfl ?_
                refine zz_if_le (tgt := 58) d_MO_match_53 (by decide) (by decide) (fun c200 => absurd c200 (by decide)) (fun c200 => ?_)
                refine zz_iconst d_MO_match_56 ?_
                refine zz_iret rfl d_MO_match_57 ?_
                rw [hQ]; exact ⟨_, _, _, _, _, _, _, _, _, _, _, _, _, _, _, _, _, _, _, rfl, hfr, hlen, hsl, h80, h135, h136, h137, h144, h138, h142, h143, h140, h141, h134, h139, (by first | exact jn | exact rgs_w jn (by omega)), (by first | exact jse | exact rgs_w jse (by omega)), (by first | exact jsp | exact rgs_w jsp (by omega)), (by first | exact jpt | exact rgs_w jpt (by omega)), (by first | exact jts | exact rgs_w jts (by omega)), (by first | exact jto | exact rgs_w jto (by omega)), (by first | exact jke | exact rgs_w jke (by omega)), (by omega), (by exact Or.inr ⟨rfl, by first | exact Or.inr (fun q => by omega) | exact Or.inl (hq5 (by omega)), rfl, rfl, rfl, rfl⟩)⟩
set_option maxRecDepth 100000 in
set_option maxHeartbeats 4000000 in
theorem y_MO_all_36 {X : ab_X} {d : Nat} {Q : Outcome → ab_G → Prop} {o : Nat → Nat} {G0 : ab_G} {m_thrown : Int} {m_taped : Int} {m_length : Int} {m_out : Int} {m_gathered : Int} {m_sets : Int} {m_ranges : Int} {m_nodes : Int} {m_at : Int} {m_flags : Int} {m_fault : Int} {m_place : Int} {m_numbered : Int} {m_depth : Int} {m_value : Int} {m_isNot : Int} {m_least0 : Int} {m_most0 : Int} {m_slot : Int} {m_work : Int} {m_got : Int} {m_rowMany : Int} {m_isMatch : Int} {m_matchGroups : Int} {m_pieces : Int} {m_writtenMany : Int} {m_templateWide : Int} {m_tooMuch : Int} {A_flagsOf : Int → Int} {A_step : Int → Int} {A_next : Int → Int} {A_more : Int → Int} {A_classAt : Int → Int} {A_classMany : Int → Int} {A_classLow : Int → Int} {A_classHigh : Int → Int} {A_subject : Int → Int} {A_stepMany : Int → Int} {A_entry : Int → Int} {CN : Int → Int} {v9 : Sn} {s : Int} (n18 : ab_n0 = 18) (cle : 0 ≤ m_length ∧ m_length ≤ 2000) (cs : 0 ≤ s ∧ s ≤ 5 ∧ 0 ≤ (A_stepMany s) ∧ (A_stepMany s) ≤ 12500) (jsg : sgood A_step A_next A_more A_classAt A_classMany (12500 * s) (A_stepMany s)) (jst : rgs A_step 75000 0 6) (jcl : rgs A_classLow 3600 0 1114111) (jch : rgs A_classHigh 3600 0 1114111) (jsb : rgs A_subject 2000 0 255) (cen : 0 ≤ (A_entry s) ∧ (A_entry s) < (A_stepMany s)) (cfl : 0 ≤ A_flagsOf s ∧ A_flagsOf s ≤ 31) (hnr : nrows A_step A_next A_more A_classAt A_classMany A_classLow A_classHigh A_subject CN m_length (12500 * s) (A_stepMany s) m_length 0 (0 - 1)) (hnt : ntK A_step A_next A_more A_classAt A_classMany A_classLow A_classHigh A_subject CN m_length (12500 * s) (A_stepMany s) m_length 0 0) (jps : prZ A_step A_next A_more A_classAt A_classMany A_classLow A_classHigh s (A_stepMany s) (A_entry s) v9) (hd : 10 ≤ d) : ∀ (mz : Nat) {G : ab_G} {m_wide : Int} {m_charAt : Int} {m_charWide : Int} {m_trail : Int} {m_allFrom : Int} {m_allBefore : Int} {JU : Int → Int} {CO : Int → Int} {ZN : Int → Int} {ZS : Int → Int} {SP : Int → Int} {PL : Int → Int} {PT : Int → Int} {TS : Int → Int} {TO : Int → Int} {m_founds : Int} {FA : Int → Int}, (cc o G 80 280 (ab_ob 12 (mof m_thrown m_taped m_length m_out m_wide m_gathered m_sets m_ranges m_nodes m_at m_flags m_fault m_place m_numbered m_depth m_value m_isNot m_least0 m_most0 m_slot m_work m_got m_rowMany m_charAt m_charWide m_trail m_isMatch m_matchGroups m_allFrom m_allBefore m_founds m_pieces m_writtenMany m_templateWide m_tooMuch))) → (cc o G 134 334 (zl 392196 CN)) → (cc o G 135 335 (zl 392196 JU)) → (cc o G 136 336 (zl 392196 CO)) → (cc o G 137 337 (zb 12500 ZN)) → (cc o G 144 344 (zb 12500 ZS)) → (cc o G 138 338 (za 20 SP)) → (cc o G 142 342 (za 25000 PL)) → (cc o G 143 343 (za 25000 PT)) → (cc o G 140 340 (za 12500 TS)) → (cc o G 141 341 (za 12500 TO)) → (cc o G 116 316 (za 6 A_flagsOf)) → (cc o G 118 318 (za 75000 A_step)) → (cc o G 119 319 (za 75000 A_next)) → (cc o G 120 320 (za 75000 A_more)) → (cc o G 121 321 (za 75000 A_classAt)) → (cc o G 122 322 (za 75000 A_classMany)) → (cc o G 123 323 (za 3600 A_classLow)) → (cc o G 124 324 (za 3600 A_classHigh)) → (cc o G 85 285 (za 2000 A_subject)) → (cc o G 117 317 (za 6 A_stepMany)) → (cc o G 113 313 (za 6 A_entry)) → (cc o G 145 345 (za 4100 FA)) → (-1 ≤ m_allBefore ∧ m_allBefore ≤ m_allFrom ∧ 0 ≤ m_allFrom ∧ m_allFrom ≤ m_length + 1 ∧ m_allBefore ≤ m_length) → (0 ≤ m_founds ∧ m_founds ≤ m_allBefore + 1) → (mxA m_allFrom m_allBefore) → (alK v9 A_subject m_length (1 - A_flagsOf s / 16) m_founds m_allBefore FA) → (rgs ZN 12500 0 1) → (rgs ZS 12500 0 1) → (rgs SP 20 (-1) 2000) → (rgs PT 25000 0 12500) → (rgs TS 12500 0 19) → (rgs TO 12500 (-1) 2000) → (fx o o [280, 335, 336, 337, 344, 338, 342, 343, 340, 341, 345] G0 G) → (G.length = G0.length) → (ab_slots G = ab_slots G0) → (Int.toNat (m_length + 1 - m_allBefore) < mz) → (∀ (G2 : ab_G) (w2 : Int) (c2 : Int) (cw2 : Int) (t2 : Int) (JU2 : Int → Int) (CO2 : Int → Int) (ZN2 : Int → Int) (ZS2 : Int → Int) (SP2 : Int → Int) (PL2 : Int → Int) (PT2 : Int → Int) (TS2 : Int → Int) (TO2 : Int → Int) (af2 : Int) (ab2 : Int) (FA2 : Int → Int) (n2 : Int), (cc o G2 80 280 (ab_ob 12 (mof m_thrown m_taped m_length m_out w2 m_gathered m_sets m_ranges m_nodes m_at m_flags m_fault m_place m_numbered m_depth m_value m_isNot m_least0 m_most0 m_slot m_work m_got m_rowMany c2 cw2 t2 m_isMatch m_matchGroups af2 ab2 n2 m_pieces m_writtenMany m_templateWide m_tooMuch))) → (cc o G2 135 335 (zl 392196 JU2)) → (cc o G2 136 336 (zl 392196 CO2)) → (cc o G2 137 337 (zb 12500 ZN2)) → (cc o G2 144 344 (zb 12500 ZS2)) → (cc o G2 138 338 (za 20 SP2)) → (cc o G2 142 342 (za 25000 PL2)) → (cc o G2 143 343 (za 25000 PT2)) → (cc o G2 140 340 (za 12500 TS2)) → (cc o G2 141 341 (za 12500 TO2)) → (cc o G2 145 345 (za 4100 FA2)) → (rgs ZN2 12500 0 1) → (rgs ZS2 12500 0 1) → (rgs SP2 20 (-1) 2000) → (rgs PT2 25000 0 12500) → (rgs TS2 12500 0 19) → (rgs TO2 12500 (-1) 2000) → (0 ≤ n2 ∧ n2 ≤ m_length + 1) → (alC v9 A_subject m_length (1 - A_flagsOf s / 16) n2 FA2) → (fx o o [280, 335, 336, 337, 344, 338, 342, 343, 340, 341, 345] G0 G2) → (G2.length = G0.length) → (ab_slots G2 = ab_slots G0) → ab_W X (ab_pl y_MO_all b_MO_all 2 (some (.int))) d G2 93 [some (vR 80), none] [] Q) → ab_W X (ab_pl y_MO_all b_MO_all 2 (some (.int))) d G 36 [some (vR 80), some (vz s)] [] Q := by
  intro mz
  induction mz with
  | zero => intro G m_wide m_charAt m_charWide m_trail m_allFrom m_allBefore JU CO ZN ZS SP PL PT TS TO m_founds FA h80 h134 h135 h136 h137 h144 h138 h142 h143 h140 h141 h116 h118 h119 h120 h121 h122 h123 h124 h85 h117 h113 h145 cab cnt jmx jal jn jse jsp jpt jts jto hfr hlen hsl hm hk0; exact absurd hm (Nat.not_lt_zero _)
  | succ mz ih =>
    intro G m_wide m_charAt m_charWide m_trail m_allFrom m_allBefore JU CO ZN ZS SP PL PT TS TO m_founds FA h80 h134 h135 h136 h137 h144 h138 h142 h143 h140 h141 h116 h118 h119 h120 h121 h122 h123 h124 h85 h117 h113 h145 cab cnt jmx jal jn jse jsp jpt jts jto hfr hlen hsl hm hk0
    refine ab_aload_n d_MO_all_36 rfl ?_
    refine ab_iload_n d_MO_all_37 rfl ?_
    refine ab_callV (d' := d - 1) (as := [vz s]) (st := []) (r := _) (z_MO_nextMatch (o := o) (m_thrown := m_thrown) (m_taped := m_taped) (m_length := m_length) (m_out := m_out) (m_wide := m_wide) (m_gathered := m_gathered) (m_sets := m_sets) (m_ranges := m_ranges) (m_nodes := m_nodes) (m_at := m_at) (m_flags := m_flags) (m_fault := m_fault) (m_place := m_place) (m_numbered := m_numbered) (m_depth := m_depth) (m_value := m_value) (m_isNot := m_isNot) (m_least0 := m_least0) (m_most0 := m_most0) (m_slot := m_slot) (m_work := m_work) (m_got := m_got) (m_rowMany := m_rowMany) (m_charAt := m_charAt) (m_charWide := m_charWide) (m_trail := m_trail) (m_isMatch := m_isMatch) (m_matchGroups := m_matchGroups) (m_allFrom := m_allFrom) (m_allBefore := m_allBefore) (m_founds := m_founds) (m_pieces := m_pieces) (m_writtenMany := m_writtenMany) (m_templateWide := m_templateWide) (m_tooMuch := m_tooMuch) (A_flagsOf := A_flagsOf) (A_step := A_step) (A_next := A_next) (A_more := A_more) (A_classAt := A_classAt) (A_classMany := A_classMany) (A_classLow := A_classLow) (A_classHigh := A_classHigh) (A_subject := A_subject) (A_stepMany := A_stepMany) (A_entry := A_entry) (CN := CN) (JU := JU) (CO := CO) (ZN := ZN) (ZS := ZS) (SP := SP) (PL := PL) (PT := PT) (TS := TS) (TO := TO) (s := s) (v9 := v9) h80 h134 h135 h136 h137 h144 h138 h142 h143 h140 h141 h116 h118 h119 h120 h121 h122 h123 h124 h85 h117 h113 (by omega) (by omega) (by omega) jsg jst jcl jch jsb (by omega) (by omega) hnr hnt jps (by omega) jmx jn jse jsp jpt jts jto (by omega)) (fun oc G2 h => by rcases h with ⟨_, _, _, _, _, _, _, _, _, _, _, _, _, _, _, h, _⟩ | ⟨_, _, _, _, _, _, _, _, _, _, _, _, _, _, _, h, _⟩ <;> exact ⟨_, h⟩) (by omega) m_MO_nextMatch ml_MO_585 im_MO_nextMatch se_MO_nextMatch c_MO h80.2.2 (Nat.le_of_ble_eq_true rfl) d_MO_all_38 rfl ?_
    intro v G1 hq
    rcases hq with ⟨w22, c23, cw24, t25, JU26, CO27, ZN28, ZS29, SP210, PL211, PT212, TS213, TO214, af215, ab216, hv, hfk, hlk, hsk, hN80, hN135, hN136, hN137, hN144, hN138, hN142, hN143, hN140, hN141, hq17, hq18, hq19, hq20, hq21, hq22, hq23, hq24, hq25⟩ | ⟨w226, c227, cw228, t229, JU230, CO231, ZN232, ZS233, SP234, PL235, PT236, TS237, TO238, af239, ab240, hv, hfk, hlk, hsk, hN80, hN135, hN136, hN137, hN144, hN138, hN142, hN143, hN140, hN141, hq41, hq42, hq43, hq44, hq45, hq46, hq47, hq48⟩
    · cases hv
      have h134 := hfk.get h134 (by decide)
      have h116 := hfk.get h116 (by decide)
      have h118 := hfk.get h118 (by decide)
      have h119 := hfk.get h119 (by decide)
      have h120 := hfk.get h120 (by decide)
      have h121 := hfk.get h121 (by decide)
      have h122 := hfk.get h122 (by decide)
      have h123 := hfk.get h123 (by decide)
      have h124 := hfk.get h124 (by decide)
      have h85 := hfk.get h85 (by decide)
      have h117 := hfk.get h117 (by decide)
      have h113 := hfk.get h113 (by decide)
      have h145 := hfk.get h145 (by decide)
      have hfr := hfr.tr hfk (by decide)
      have hlen := hlk.trans hlen
      have hsl := hsk.trans hsl
      have h80 := hN80
      have h135 := hN135
      have h136 := hN136
      have h137 := hN137
      have h144 := hN144
      have h138 := hN138
      have h142 := hN142
      have h143 := hN143
      have h140 := hN140
      have h141 := hN141
      change ab_W _ _ _ G1 41 [some (vR 80), some (vz s)] [vz 1] _
      refine zz_if_eq (tgt := 93) d_MO_all_41 (by decide) (by decide) (fun c49 => absurd c49 (by decide)) (fun c49 => ?_)
      refine ab_aload_n d_MO_all_44 rfl ?_
      refine ab_getf (fs := mof m_thrown m_taped m_length m_out w22 m_gathered m_sets m_ranges m_nodes m_at m_flags m_fault m_place m_numbered m_depth m_value m_isNot m_least0 m_most0 m_slot m_work m_got m_rowMany c23 cw24 t25 m_isMatch m_matchGroups af215 ab216 m_founds m_pieces m_writtenMany m_templateWide m_tooMuch) f_MO_211 d_MO_all_45 h80.2.2 rfl ?_
      refine zz_iconst d_MO_all_48 ?_
      refine ab_aload_n d_MO_all_49 rfl ?_
      refine ab_getf (fs := mof m_thrown m_taped m_length m_out w22 m_gathered m_sets m_ranges m_nodes m_at m_flags m_fault m_place m_numbered m_depth m_value m_isNot m_least0 m_most0 m_slot m_work m_got m_rowMany c23 cw24 t25 m_isMatch m_matchGroups af215 ab216 m_founds m_pieces m_writtenMany m_templateWide m_tooMuch) f_MO_579 d_MO_all_50 h80.2.2 rfl ?_
      refine zz_imul d_MO_all_53 ?_
      refine ab_aload_n d_MO_all_54 rfl ?_
      refine ab_getf (fs := mof m_thrown m_taped m_length m_out w22 m_gathered m_sets m_ranges m_nodes m_at m_flags m_fault m_place m_numbered m_depth m_value m_isNot m_least0 m_most0 m_slot m_work m_got m_rowMany c23 cw24 t25 m_isMatch m_matchGroups af215 ab216 m_founds m_pieces m_writtenMany m_templateWide m_tooMuch) f_MO_190 d_MO_all_55 h80.2.2 rfl ?_
      refine zz_iconst d_MO_all_58 ?_
      refine zz_iald d_MO_all_59 h138 (by omega) ?_
      refine zz_iast d_MO_all_60 h145 (by omega) (h145.2.1 (by decide)) ?_
      obtain ⟨G50, eG50⟩ : ∃ z : ab_G, z = List.set G1 145 (za 4100 (zu FA (2 * m_founds) (SP210 0))) := ⟨_, rfl⟩
      have h80 := h80.keep h145 eG50 (by decide)
      have h134 := h134.keep h145 eG50 (by decide)
      have h135 := h135.keep h145 eG50 (by decide)
      have h136 := h136.keep h145 eG50 (by decide)
      have h137 := h137.keep h145 eG50 (by decide)
      have h144 := h144.keep h145 eG50 (by decide)
      have h138 := h138.keep h145 eG50 (by decide)
      have h142 := h142.keep h145 eG50 (by decide)
      have h143 := h143.keep h145 eG50 (by decide)
      have h140 := h140.keep h145 eG50 (by decide)
      have h141 := h141.keep h145 eG50 (by decide)
      have h116 := h116.keep h145 eG50 (by decide)
      have h118 := h118.keep h145 eG50 (by decide)
      have h119 := h119.keep h145 eG50 (by decide)
      have h120 := h120.keep h145 eG50 (by decide)
      have h121 := h121.keep h145 eG50 (by decide)
      have h122 := h122.keep h145 eG50 (by decide)
      have h123 := h123.keep h145 eG50 (by decide)
      have h124 := h124.keep h145 eG50 (by decide)
      have h85 := h85.keep h145 eG50 (by decide)
      have h117 := h117.keep h145 eG50 (by decide)
      have h113 := h113.keep h145 eG50 (by decide)
      have hlen := (z_len eG50).trans hlen
      have hsl := (z_sl h145 eG50 rfl).trans hsl
      have hfr := hfr.wr h145 eG50 (by decide)
      have h145 := h145.kept eG50
      change ab_W _ _ _ (List.set G1 145 (za 4100 (zu FA (2 * m_founds) (SP210 0)))) 61 [some (vR 80), some (vz s)] [] _
      rw [← eG50]
      refine ab_aload_n d_MO_all_61 rfl ?_
      refine ab_getf (fs := mof m_thrown m_taped m_length m_out w22 m_gathered m_sets m_ranges m_nodes m_at m_flags m_fault m_place m_numbered m_depth m_value m_isNot m_least0 m_most0 m_slot m_work m_got m_rowMany c23 cw24 t25 m_isMatch m_matchGroups af215 ab216 m_founds m_pieces m_writtenMany m_templateWide m_tooMuch) f_MO_211 d_MO_all_62 h80.2.2 rfl ?_
      refine zz_iconst d_MO_all_65 ?_
      refine ab_aload_n d_MO_all_66 rfl ?_
      refine ab_getf (fs := mof m_thrown m_taped m_length m_out w22 m_gathered m_sets m_ranges m_nodes m_at m_flags m_fault m_place m_numbered m_depth m_value m_isNot m_least0 m_most0 m_slot m_work m_got m_rowMany c23 cw24 t25 m_isMatch m_matchGroups af215 ab216 m_founds m_pieces m_writtenMany m_templateWide m_tooMuch) f_MO_579 d_MO_all_67 h80.2.2 rfl ?_
      refine zz_imul d_MO_all_70 ?_
      refine zz_iconst d_MO_all_71 ?_
      refine zz_iadd d_MO_all_72 ?_
      refine ab_aload_n d_MO_all_73 rfl ?_
      refine ab_getf (fs := mof m_thrown m_taped m_length m_out w22 m_gathered m_sets m_ranges m_nodes m_at m_flags m_fault m_place m_numbered m_depth m_value m_isNot m_least0 m_most0 m_slot m_work m_got m_rowMany c23 cw24 t25 m_isMatch m_matchGroups af215 ab216 m_founds m_pieces m_writtenMany m_templateWide m_tooMuch) f_MO_190 d_MO_all_74 h80.2.2 rfl ?_
      refine zz_iconst d_MO_all_77 ?_
      refine zz_iald d_MO_all_78 h138 (by omega) ?_
      refine zz_iast d_MO_all_79 h145 (by omega) (h145.2.1 (by decide)) ?_
      obtain ⟨G51, eG51⟩ : ∃ z : ab_G, z = List.set G50 145 (za 4100 (zu (zu FA (2 * m_founds) (SP210 0)) ((2 * m_founds) + 1) (SP210 1))) := ⟨_, rfl⟩
      have h80 := h80.keep h145 eG51 (by decide)
      have h134 := h134.keep h145 eG51 (by decide)
      have h135 := h135.keep h145 eG51 (by decide)
      have h136 := h136.keep h145 eG51 (by decide)
      have h137 := h137.keep h145 eG51 (by decide)
      have h144 := h144.keep h145 eG51 (by decide)
      have h138 := h138.keep h145 eG51 (by decide)
      have h142 := h142.keep h145 eG51 (by decide)
      have h143 := h143.keep h145 eG51 (by decide)
      have h140 := h140.keep h145 eG51 (by decide)
      have h141 := h141.keep h145 eG51 (by decide)
      have h116 := h116.keep h145 eG51 (by decide)
      have h118 := h118.keep h145 eG51 (by decide)
      have h119 := h119.keep h145 eG51 (by decide)
      have h120 := h120.keep h145 eG51 (by decide)
      have h121 := h121.keep h145 eG51 (by decide)
      have h122 := h122.keep h145 eG51 (by decide)
      have h123 := h123.keep h145 eG51 (by decide)
      have h124 := h124.keep h145 eG51 (by decide)
      have h85 := h85.keep h145 eG51 (by decide)
      have h117 := h117.keep h145 eG51 (by decide)
      have h113 := h113.keep h145 eG51 (by decide)
      have hlen := (z_len eG51).trans hlen
      have hsl := (z_sl h145 eG51 rfl).trans hsl
      have hfr := hfr.wr h145 eG51 (by decide)
      have h145 := h145.kept eG51
      change ab_W _ _ _ (List.set G50 145 (za 4100 (zu (zu FA (2 * m_founds) (SP210 0)) ((2 * m_founds) + 1) (SP210 1)))) 80 [some (vR 80), some (vz s)] [] _
      rw [← eG51]
      refine ab_aload_n d_MO_all_80 rfl ?_
      refine ab_dup d_MO_all_81 rfl ?_
      refine ab_getf (fs := mof m_thrown m_taped m_length m_out w22 m_gathered m_sets m_ranges m_nodes m_at m_flags m_fault m_place m_numbered m_depth m_value m_isNot m_least0 m_most0 m_slot m_work m_got m_rowMany c23 cw24 t25 m_isMatch m_matchGroups af215 ab216 m_founds m_pieces m_writtenMany m_templateWide m_tooMuch) f_MO_579 d_MO_all_82 h80.2.2 rfl ?_
      refine zz_iconst d_MO_all_85 ?_
      refine zz_iadd d_MO_all_86 ?_
      refine ab_putf (fs := mof m_thrown m_taped m_length m_out w22 m_gathered m_sets m_ranges m_nodes m_at m_flags m_fault m_place m_numbered m_depth m_value m_isNot m_least0 m_most0 m_slot m_work m_got m_rowMany c23 cw24 t25 m_isMatch m_matchGroups af215 ab216 m_founds m_pieces m_writtenMany m_templateWide m_tooMuch) f_MO_579 (Or.inl rfl) d_MO_all_87 h80.2.2 (Nat.le_of_ble_eq_true rfl) (fun _ => ⟨rfl, rfl⟩) (h80.2.1 (by decide)) ?_
      obtain ⟨G52, eG52⟩ : ∃ z : ab_G, z = List.set G51 80 (ab_ob 12 (mof m_thrown m_taped m_length m_out w22 m_gathered m_sets m_ranges m_nodes m_at m_flags m_fault m_place m_numbered m_depth m_value m_isNot m_least0 m_most0 m_slot m_work m_got m_rowMany c23 cw24 t25 m_isMatch m_matchGroups af215 ab216 (m_founds + 1) m_pieces m_writtenMany m_templateWide m_tooMuch)) := ⟨_, rfl⟩
      have h134 := h134.keep h80 eG52 (by decide)
      have h135 := h135.keep h80 eG52 (by decide)
      have h136 := h136.keep h80 eG52 (by decide)
      have h137 := h137.keep h80 eG52 (by decide)
      have h144 := h144.keep h80 eG52 (by decide)
      have h138 := h138.keep h80 eG52 (by decide)
      have h142 := h142.keep h80 eG52 (by decide)
      have h143 := h143.keep h80 eG52 (by decide)
      have h140 := h140.keep h80 eG52 (by decide)
      have h141 := h141.keep h80 eG52 (by decide)
      have h116 := h116.keep h80 eG52 (by decide)
      have h118 := h118.keep h80 eG52 (by decide)
      have h119 := h119.keep h80 eG52 (by decide)
      have h120 := h120.keep h80 eG52 (by decide)
      have h121 := h121.keep h80 eG52 (by decide)
      have h122 := h122.keep h80 eG52 (by decide)
      have h123 := h123.keep h80 eG52 (by decide)
      have h124 := h124.keep h80 eG52 (by decide)
      have h85 := h85.keep h80 eG52 (by decide)
      have h117 := h117.keep h80 eG52 (by decide)
      have h113 := h113.keep h80 eG52 (by decide)
      have h145 := h145.keep h80 eG52 (by decide)
      have hlen := (z_len eG52).trans hlen
      have hsl := (z_sl h80 eG52 rfl).trans hsl
      have hfr := hfr.wr h80 eG52 (by decide)
      have h80 := h80.kept eG52
      change ab_W _ _ _ (List.set G51 80 (ab_ob 12 (mof m_thrown m_taped m_length m_out w22 m_gathered m_sets m_ranges m_nodes m_at m_flags m_fault m_place m_numbered m_depth m_value m_isNot m_least0 m_most0 m_slot m_work m_got m_rowMany c23 cw24 t25 m_isMatch m_matchGroups af215 ab216 (m_founds + 1) m_pieces m_writtenMany m_templateWide m_tooMuch))) 90 [some (vR 80), some (vz s)] [] _
      rw [← eG52]
      refine ab_goto (tgt := 36) d_MO_all_90 (by decide) ?_
      exact ih (m_wide := w22) (m_charAt := c23) (m_charWide := cw24) (m_trail := t25) (m_allFrom := af215) (m_allBefore := ab216) (JU := JU26) (CO := CO27) (ZN := ZN28) (ZS := ZS29) (SP := SP210) (PL := PL211) (PT := PT212) (TS := TS213) (TO := TO214) (m_founds := (m_founds + 1)) (FA := (zu (zu FA (2 * m_founds) (SP210 0)) ((2 * m_founds) + 1) (SP210 1))) h80 h134 h135 h136 h137 h144 h138 h142 h143 h140 h141 h116 h118 h119 h120 h121 h122 h123 h124 h85 h117 h113 h145 (by omega) (by omega) (mxA_s (by omega) (by omega)) (alK_s jal hq25 (by omega)) hq17 hq18 hq19 hq20 hq21 hq22 hfr hlen hsl (by omega) hk0
    · cases hv
      have h134 := hfk.get h134 (by decide)
      have h116 := hfk.get h116 (by decide)
      have h118 := hfk.get h118 (by decide)
      have h119 := hfk.get h119 (by decide)
      have h120 := hfk.get h120 (by decide)
      have h121 := hfk.get h121 (by decide)
      have h122 := hfk.get h122 (by decide)
      have h123 := hfk.get h123 (by decide)
      have h124 := hfk.get h124 (by decide)
      have h85 := hfk.get h85 (by decide)
      have h117 := hfk.get h117 (by decide)
      have h113 := hfk.get h113 (by decide)
      have h145 := hfk.get h145 (by decide)
      have hfr := hfr.tr hfk (by decide)
      have hlen := hlk.trans hlen
      have hsl := hsk.trans hsl
      have h80 := hN80
      have h135 := hN135
      have h136 := hN136
      have h137 := hN137
      have h144 := hN144
      have h138 := hN138
      have h142 := hN142
      have h143 := hN143
      have h140 := hN140
      have h141 := hN141
      change ab_W _ _ _ G1 41 [some (vR 80), some (vz s)] [vz 0] _
      refine zz_if_eq (tgt := 93) d_MO_all_41 (by decide) (by decide) (fun c53 => ?_) (fun c53 => absurd c53 (by decide))
      refine ab_less (L' := [some (vR 80), none]) (fun i v h => by rcases i with _ | _ | i <;> first | exact h | (simp at h)) ?_
      exact hk0 _ _ _ _ _ _ _ _ _ _ _ _ _ _ _ _ _ _ h80 h135 h136 h137 h144 h138 h142 h143 h140 h141 h145 (by first | exact hq41 | exact rgs_w hq41 (by omega)) (by first | exact hq42 | exact rgs_w hq42 (by omega)) (by first | exact hq43 | exact rgs_w hq43 (by omega)) (by first | exact hq44 | exact rgs_w hq44 (by omega)) (by first | exact hq45 | exact rgs_w hq45 (by omega)) (by first | exact hq46 | exact rgs_w hq46 (by omega)) (by omega) (by exact alC_of jal hq48) hfr hlen hsl
set_option maxRecDepth 100000 in
set_option maxHeartbeats 4000000 in
theorem z_MO_all {X : ab_X} {d : Nat} {o : Nat → Nat} {G : ab_G} {m_thrown : Int} {m_taped : Int} {m_length : Int} {m_out : Int} {m_wide : Int} {m_gathered : Int} {m_sets : Int} {m_ranges : Int} {m_nodes : Int} {m_at : Int} {m_flags : Int} {m_fault : Int} {m_place : Int} {m_numbered : Int} {m_depth : Int} {m_value : Int} {m_isNot : Int} {m_least0 : Int} {m_most0 : Int} {m_slot : Int} {m_work : Int} {m_got : Int} {m_rowMany : Int} {m_charAt : Int} {m_charWide : Int} {m_trail : Int} {m_isMatch : Int} {m_matchGroups : Int} {m_allFrom : Int} {m_allBefore : Int} {m_founds : Int} {m_pieces : Int} {m_writtenMany : Int} {m_templateWide : Int} {m_tooMuch : Int} {A_there : Int → Int} {A_groupsOf : Int → Int} {A_flagsOf : Int → Int} {A_step : Int → Int} {A_next : Int → Int} {A_more : Int → Int} {A_classAt : Int → Int} {A_classMany : Int → Int} {A_classLow : Int → Int} {A_classHigh : Int → Int} {A_subject : Int → Int} {A_stepMany : Int → Int} {A_entry : Int → Int} {CN : Int → Int} {JU : Int → Int} {CO : Int → Int} {ZN : Int → Int} {ZS : Int → Int} {SP : Int → Int} {PL : Int → Int} {PT : Int → Int} {TS : Int → Int} {TO : Int → Int} {V6 : Int → Sn} {FA : Int → Int} {s : Int} (h80 : cc o G 80 280 (ab_ob 12 (mof m_thrown m_taped m_length m_out m_wide m_gathered m_sets m_ranges m_nodes m_at m_flags m_fault m_place m_numbered m_depth m_value m_isNot m_least0 m_most0 m_slot m_work m_got m_rowMany m_charAt m_charWide m_trail m_isMatch m_matchGroups m_allFrom m_allBefore m_founds m_pieces m_writtenMany m_templateWide m_tooMuch))) (h145 : cc o G 145 345 (za 4100 FA)) (h134 : cc o G 134 334 (zl 392196 CN)) (h135 : cc o G 135 335 (zl 392196 JU)) (h136 : cc o G 136 336 (zl 392196 CO)) (h137 : cc o G 137 337 (zb 12500 ZN)) (h144 : cc o G 144 344 (zb 12500 ZS)) (h138 : cc o G 138 338 (za 20 SP)) (h142 : cc o G 142 342 (za 25000 PL)) (h143 : cc o G 143 343 (za 25000 PT)) (h140 : cc o G 140 340 (za 12500 TS)) (h141 : cc o G 141 341 (za 12500 TO)) (h112 : cc o G 112 312 (zb 6 A_there)) (h114 : cc o G 114 314 (za 6 A_groupsOf)) (h116 : cc o G 116 316 (za 6 A_flagsOf)) (h118 : cc o G 118 318 (za 75000 A_step)) (h119 : cc o G 119 319 (za 75000 A_next)) (h120 : cc o G 120 320 (za 75000 A_more)) (h121 : cc o G 121 321 (za 75000 A_classAt)) (h122 : cc o G 122 322 (za 75000 A_classMany)) (h123 : cc o G 123 323 (za 3600 A_classLow)) (h124 : cc o G 124 324 (za 3600 A_classHigh)) (h85 : cc o G 85 285 (za 2000 A_subject)) (h117 : cc o G 117 317 (za 6 A_stepMany)) (h113 : cc o G 113 313 (za 6 A_entry)) (n18 : ab_n0 = 18) (cle : 0 ≤ m_length ∧ m_length ≤ 2000) (jth : rgs A_there 6 0 1) (jpg : mpg A_there A_step A_next A_more A_classAt A_classMany A_stepMany A_entry A_groupsOf A_flagsOf) (jst : rgs A_step 75000 0 6) (jcl : rgs A_classLow 3600 0 1114111) (jch : rgs A_classHigh 3600 0 1114111) (jsb : rgs A_subject 2000 0 255) (cr : -2147483648 ≤ s ∧ s ≤ 2147483647) (cn0 : 0 ≤ m_founds ∧ m_founds ≤ 2050) (jpm : mpm A_there A_step A_next A_more A_classAt A_classMany A_classLow A_classHigh A_stepMany A_entry V6) (jn : rgs ZN 12500 0 1) (jse : rgs ZS 12500 0 1) (jsp : rgs SP 20 (-1) 2000) (jpt : rgs PT 25000 0 12500) (jts : rgs TS 12500 0 19) (jto : rgs TO 12500 (-1) 2000) (hd : 11 ≤ d) : ab_F X d y_MO_all (.code y_MO_all b_MO_all 2 (some (.int))) [vR 80, vz s] G (fun oc G2 => ∃ v : Int, ∃ th2 : Int, ∃ n2 : Int, ∃ af2 : Int, ∃ ab2 : Int, ∃ w2 : Int, ∃ c2 : Int, ∃ cw2 : Int, ∃ t2 : Int, ∃ JU2 : Int → Int, ∃ CO2 : Int → Int, ∃ ZN2 : Int → Int, ∃ ZS2 : Int → Int, ∃ SP2 : Int → Int, ∃ PL2 : Int → Int, ∃ PT2 : Int → Int, ∃ TS2 : Int → Int, ∃ TO2 : Int → Int, ∃ CN2 : Int → Int, ∃ FA2 : Int → Int, oc = .returned (some (vz v)) ∧ fx o o [280, 334, 335, 336, 337, 344, 338, 342, 343, 340, 341, 345] G G2 ∧ G2.length = G.length ∧ ab_slots G2 = ab_slots G ∧ cc o G2 80 280 (ab_ob 12 (mof th2 m_taped m_length m_out w2 m_gathered m_sets m_ranges m_nodes m_at m_flags m_fault m_place m_numbered m_depth m_value m_isNot m_least0 m_most0 m_slot m_work m_got m_rowMany c2 cw2 t2 m_isMatch m_matchGroups af2 ab2 n2 m_pieces m_writtenMany m_templateWide m_tooMuch)) ∧ cc o G2 135 335 (zl 392196 JU2) ∧ cc o G2 136 336 (zl 392196 CO2) ∧ cc o G2 137 337 (zb 12500 ZN2) ∧ cc o G2 144 344 (zb 12500 ZS2) ∧ cc o G2 138 338 (za 20 SP2) ∧ cc o G2 142 342 (za 25000 PL2) ∧ cc o G2 143 343 (za 25000 PT2) ∧ cc o G2 140 340 (za 12500 TS2) ∧ cc o G2 141 341 (za 12500 TO2) ∧ cc o G2 134 334 (zl 392196 CN2) ∧ cc o G2 145 345 (za 4100 FA2) ∧ (rgs ZN2 12500 0 1) ∧ (rgs ZS2 12500 0 1) ∧ (rgs SP2 20 (-1) 2000) ∧ (rgs PT2 25000 0 12500) ∧ (rgs TS2 12500 0 19) ∧ (rgs TO2 12500 (-1) 2000) ∧ (0 ≤ n2 ∧ n2 ≤ 2050) ∧ (alX A_there A_flagsOf V6 A_subject m_length s v th2 m_founds FA n2 FA2)) := by
  refine ab_F_of (by decide +kernel) (Nat.le_of_ble_eq_true rfl) ?_
  obtain ⟨Q, hQ⟩ : ∃ z : Outcome → ab_G → Prop, z = (fun oc G2 => ∃ v : Int, ∃ th2 : Int, ∃ n2 : Int, ∃ af2 : Int, ∃ ab2 : Int, ∃ w2 : Int, ∃ c2 : Int, ∃ cw2 : Int, ∃ t2 : Int, ∃ JU2 : Int → Int, ∃ CO2 : Int → Int, ∃ ZN2 : Int → Int, ∃ ZS2 : Int → Int, ∃ SP2 : Int → Int, ∃ PL2 : Int → Int, ∃ PT2 : Int → Int, ∃ TS2 : Int → Int, ∃ TO2 : Int → Int, ∃ CN2 : Int → Int, ∃ FA2 : Int → Int, oc = .returned (some (vz v)) ∧ fx o o [280, 334, 335, 336, 337, 344, 338, 342, 343, 340, 341, 345] G G2 ∧ G2.length = G.length ∧ ab_slots G2 = ab_slots G ∧ cc o G2 80 280 (ab_ob 12 (mof th2 m_taped m_length m_out w2 m_gathered m_sets m_ranges m_nodes m_at m_flags m_fault m_place m_numbered m_depth m_value m_isNot m_least0 m_most0 m_slot m_work m_got m_rowMany c2 cw2 t2 m_isMatch m_matchGroups af2 ab2 n2 m_pieces m_writtenMany m_templateWide m_tooMuch)) ∧ cc o G2 135 335 (zl 392196 JU2) ∧ cc o G2 136 336 (zl 392196 CO2) ∧ cc o G2 137 337 (zb 12500 ZN2) ∧ cc o G2 144 344 (zb 12500 ZS2) ∧ cc o G2 138 338 (za 20 SP2) ∧ cc o G2 142 342 (za 25000 PL2) ∧ cc o G2 143 343 (za 25000 PT2) ∧ cc o G2 140 340 (za 12500 TS2) ∧ cc o G2 141 341 (za 12500 TO2) ∧ cc o G2 134 334 (zl 392196 CN2) ∧ cc o G2 145 345 (za 4100 FA2) ∧ (rgs ZN2 12500 0 1) ∧ (rgs ZS2 12500 0 1) ∧ (rgs SP2 20 (-1) 2000) ∧ (rgs PT2 25000 0 12500) ∧ (rgs TS2 12500 0 19) ∧ (rgs TO2 12500 (-1) 2000) ∧ (0 ≤ n2 ∧ n2 ≤ 2050) ∧ (alX A_there A_flagsOf V6 A_subject m_length s v th2 m_founds FA n2 FA2)) := ⟨_, rfl⟩
  rw [← hQ]
  change ab_W X (ab_pl y_MO_all b_MO_all 2 (some (.int))) d G 0 [some (vR 80), some (vz s)] [] Q
  have hfr : fx o o [280, 334, 335, 336, 337, 344, 338, 342, 343, 340, 341, 345] G G := fx.rf
  have hlen : G.length = G.length := rfl
  have hsl : ab_slots G = ab_slots G := rfl
  refine ab_aload_n d_MO_all_0 rfl ?_
  refine ab_aload_n d_MO_all_1 rfl ?_
  refine ab_iload_n d_MO_all_2 rfl ?_
  refine ab_callV (d' := d - 1) (as := [vz s]) (st := [vR 80]) (r := _) (x_MO_isThere (o := o) (m_thrown := m_thrown) (m_taped := m_taped) (m_length := m_length) (m_out := m_out) (m_wide := m_wide) (m_gathered := m_gathered) (m_sets := m_sets) (m_ranges := m_ranges) (m_nodes := m_nodes) (m_at := m_at) (m_flags := m_flags) (m_fault := m_fault) (m_place := m_place) (m_numbered := m_numbered) (m_depth := m_depth) (m_value := m_value) (m_isNot := m_isNot) (m_least0 := m_least0) (m_most0 := m_most0) (m_slot := m_slot) (m_work := m_work) (m_got := m_got) (m_rowMany := m_rowMany) (m_charAt := m_charAt) (m_charWide := m_charWide) (m_trail := m_trail) (m_isMatch := m_isMatch) (m_matchGroups := m_matchGroups) (m_allFrom := m_allFrom) (m_allBefore := m_allBefore) (m_founds := m_founds) (m_pieces := m_pieces) (m_writtenMany := m_writtenMany) (m_templateWide := m_templateWide) (m_tooMuch := m_tooMuch) (A_there := A_there) (x := s) h80 h112 (by omega) jth) (fun oc G2 h => by rcases h with ⟨_, h, _⟩ <;> exact ⟨_, h⟩) (by omega) m_MO_isThere ml_MO_507 im_MO_isThere se_MO_isThere c_MO h80.2.2 (Nat.le_of_ble_eq_true rfl) d_MO_all_3 rfl ?_
  intro v G1 hq
  rcases hq with ⟨v2, hv, hGe, hq3, hq4, hq5⟩
  cases hv
  rw [hGe]
  change ab_W _ _ _ G 6 [some (vR 80), some (vz s)] [vz v2, vR 80] _
  refine zz_if_eq (tgt := 13) d_MO_all_6 (by decide) (by omega) (fun c6 => ?_) (fun c6 => ?_)
  · refine zz_iconst d_MO_all_13 ?_
    refine ab_putf (fs := mof m_thrown m_taped m_length m_out m_wide m_gathered m_sets m_ranges m_nodes m_at m_flags m_fault m_place m_numbered m_depth m_value m_isNot m_least0 m_most0 m_slot m_work m_got m_rowMany m_charAt m_charWide m_trail m_isMatch m_matchGroups m_allFrom m_allBefore m_founds m_pieces m_writtenMany m_templateWide m_tooMuch) f_MO_220 (Or.inl rfl) d_MO_all_14 h80.2.2 (Nat.le_of_ble_eq_true rfl) (fun _ => ⟨rfl, rfl⟩) (h80.2.1 (by decide)) ?_
    obtain ⟨G7, eG7⟩ : ∃ z : ab_G, z = List.set G 80 (ab_ob 12 (mof 1 m_taped m_length m_out m_wide m_gathered m_sets m_ranges m_nodes m_at m_flags m_fault m_place m_numbered m_depth m_value m_isNot m_least0 m_most0 m_slot m_work m_got m_rowMany m_charAt m_charWide m_trail m_isMatch m_matchGroups m_allFrom m_allBefore m_founds m_pieces m_writtenMany m_templateWide m_tooMuch)) := ⟨_, rfl⟩
    have h145 := h145.keep h80 eG7 (by decide)
    have h134 := h134.keep h80 eG7 (by decide)
    have h135 := h135.keep h80 eG7 (by decide)
    have h136 := h136.keep h80 eG7 (by decide)
    have h137 := h137.keep h80 eG7 (by decide)
    have h144 := h144.keep h80 eG7 (by decide)
    have h138 := h138.keep h80 eG7 (by decide)
    have h142 := h142.keep h80 eG7 (by decide)
    have h143 := h143.keep h80 eG7 (by decide)
    have h140 := h140.keep h80 eG7 (by decide)
    have h141 := h141.keep h80 eG7 (by decide)
    have h112 := h112.keep h80 eG7 (by decide)
    have h114 := h114.keep h80 eG7 (by decide)
    have h116 := h116.keep h80 eG7 (by decide)
    have h118 := h118.keep h80 eG7 (by decide)
    have h119 := h119.keep h80 eG7 (by decide)
    have h120 := h120.keep h80 eG7 (by decide)
    have h121 := h121.keep h80 eG7 (by decide)
    have h122 := h122.keep h80 eG7 (by decide)
    have h123 := h123.keep h80 eG7 (by decide)
    have h124 := h124.keep h80 eG7 (by decide)
    have h85 := h85.keep h80 eG7 (by decide)
    have h117 := h117.keep h80 eG7 (by decide)
    have h113 := h113.keep h80 eG7 (by decide)
    have hlen := (z_len eG7).trans hlen
    have hsl := (z_sl h80 eG7 rfl).trans hsl
    have hfr := hfr.wr h80 eG7 (by decide)
    have h80 := h80.kept eG7
    change ab_W _ _ _ (List.set G 80 (ab_ob 12 (mof 1 m_taped m_length m_out m_wide m_gathered m_sets m_ranges m_nodes m_at m_flags m_fault m_place m_numbered m_depth m_value m_isNot m_least0 m_most0 m_slot m_work m_got m_rowMany m_charAt m_charWide m_trail m_isMatch m_matchGroups m_allFrom m_allBefore m_founds m_pieces m_writtenMany m_templateWide m_tooMuch))) 17 [some (vR 80), some (vz s)] [] _
    rw [← eG7]
    refine ab_aload_n d_MO_all_17 rfl ?_
    refine ab_getf (fs := mof 1 m_taped m_length m_out m_wide m_gathered m_sets m_ranges m_nodes m_at m_flags m_fault m_place m_numbered m_depth m_value m_isNot m_least0 m_most0 m_slot m_work m_got m_rowMany m_charAt m_charWide m_trail m_isMatch m_matchGroups m_allFrom m_allBefore m_founds m_pieces m_writtenMany m_templateWide m_tooMuch) f_MO_220 d_MO_all_18 h80.2.2 rfl ?_
    refine zz_if_le (tgt := 26) d_MO_all_21 (by decide) (by decide) (fun c8 => absurd c8 (by decide)) (fun c8 => ?_)
    refine zz_iconst d_MO_all_24 ?_
    refine zz_iret rfl d_MO_all_25 ?_
    rw [hQ]; exact ⟨_, _, _, _, _, _, _, _, _, _, _, _, _, _, _, _, _, _, _, _, rfl, hfr, hlen, hsl, h80, h135, h136, h137, h144, h138, h142, h143, h140, h141, h134, h145, (by first | exact jn | exact rgs_w jn (by omega)), (by first | exact jse | exact rgs_w jse (by omega)), (by first | exact jsp | exact rgs_w jsp (by omega)), (by first | exact jpt | exact rgs_w jpt (by omega)), (by first | exact jts | exact rgs_w jts (by omega)), (by first | exact jto | exact rgs_w jto (by omega)), (by omega), (by exact Or.inr ⟨rfl, hq5 (by omega), rfl, rfl, rfl⟩)⟩
  · refine zz_iconst d_MO_all_9 ?_
    refine ab_goto (tgt := 14) d_MO_all_10 (by decide) ?_
    refine ab_putf (fs := mof m_thrown m_taped m_length m_out m_wide m_gathered m_sets m_ranges m_nodes m_at m_flags m_fault m_place m_numbered m_depth m_value m_isNot m_least0 m_most0 m_slot m_work m_got m_rowMany m_charAt m_charWide m_trail m_isMatch m_matchGroups m_allFrom m_allBefore m_founds m_pieces m_writtenMany m_templateWide m_tooMuch) f_MO_220 (Or.inl rfl) d_MO_all_14 h80.2.2 (Nat.le_of_ble_eq_true rfl) (fun _ => ⟨rfl, rfl⟩) (h80.2.1 (by decide)) ?_
    obtain ⟨G9, eG9⟩ : ∃ z : ab_G, z = List.set G 80 (ab_ob 12 (mof 0 m_taped m_length m_out m_wide m_gathered m_sets m_ranges m_nodes m_at m_flags m_fault m_place m_numbered m_depth m_value m_isNot m_least0 m_most0 m_slot m_work m_got m_rowMany m_charAt m_charWide m_trail m_isMatch m_matchGroups m_allFrom m_allBefore m_founds m_pieces m_writtenMany m_templateWide m_tooMuch)) := ⟨_, rfl⟩
    have h145 := h145.keep h80 eG9 (by decide)
    have h134 := h134.keep h80 eG9 (by decide)
    have h135 := h135.keep h80 eG9 (by decide)
    have h136 := h136.keep h80 eG9 (by decide)
    have h137 := h137.keep h80 eG9 (by decide)
    have h144 := h144.keep h80 eG9 (by decide)
    have h138 := h138.keep h80 eG9 (by decide)
    have h142 := h142.keep h80 eG9 (by decide)
    have h143 := h143.keep h80 eG9 (by decide)
    have h140 := h140.keep h80 eG9 (by decide)
    have h141 := h141.keep h80 eG9 (by decide)
    have h112 := h112.keep h80 eG9 (by decide)
    have h114 := h114.keep h80 eG9 (by decide)
    have h116 := h116.keep h80 eG9 (by decide)
    have h118 := h118.keep h80 eG9 (by decide)
    have h119 := h119.keep h80 eG9 (by decide)
    have h120 := h120.keep h80 eG9 (by decide)
    have h121 := h121.keep h80 eG9 (by decide)
    have h122 := h122.keep h80 eG9 (by decide)
    have h123 := h123.keep h80 eG9 (by decide)
    have h124 := h124.keep h80 eG9 (by decide)
    have h85 := h85.keep h80 eG9 (by decide)
    have h117 := h117.keep h80 eG9 (by decide)
    have h113 := h113.keep h80 eG9 (by decide)
    have hlen := (z_len eG9).trans hlen
    have hsl := (z_sl h80 eG9 rfl).trans hsl
    have hfr := hfr.wr h80 eG9 (by decide)
    have h80 := h80.kept eG9
    change ab_W _ _ _ (List.set G 80 (ab_ob 12 (mof 0 m_taped m_length m_out m_wide m_gathered m_sets m_ranges m_nodes m_at m_flags m_fault m_place m_numbered m_depth m_value m_isNot m_least0 m_most0 m_slot m_work m_got m_rowMany m_charAt m_charWide m_trail m_isMatch m_matchGroups m_allFrom m_allBefore m_founds m_pieces m_writtenMany m_templateWide m_tooMuch))) 17 [some (vR 80), some (vz s)] [] _
    rw [← eG9]
    refine ab_aload_n d_MO_all_17 rfl ?_
    refine ab_getf (fs := mof 0 m_taped m_length m_out m_wide m_gathered m_sets m_ranges m_nodes m_at m_flags m_fault m_place m_numbered m_depth m_value m_isNot m_least0 m_most0 m_slot m_work m_got m_rowMany m_charAt m_charWide m_trail m_isMatch m_matchGroups m_allFrom m_allBefore m_founds m_pieces m_writtenMany m_templateWide m_tooMuch) f_MO_220 d_MO_all_18 h80.2.2 rfl ?_
    refine zz_if_le (tgt := 26) d_MO_all_21 (by decide) (by decide) (fun c10 => ?_) (fun c10 => absurd c10 (by decide))
    obtain ⟨hp1_, hp2_, hp3_, hp4_, hp5_⟩ := jpg s (by omega) (by omega) (hq4 (by omega)).2.2
    have hp6_ := jpm s (by omega) (by omega) (hq4 (by omega)).2.2
    refine ab_aload_n d_MO_all_26 rfl ?_
    refine zz_iconst d_MO_all_27 ?_
    refine ab_putf (fs := mof 0 m_taped m_length m_out m_wide m_gathered m_sets m_ranges m_nodes m_at m_flags m_fault m_place m_numbered m_depth m_value m_isNot m_least0 m_most0 m_slot m_work m_got m_rowMany m_charAt m_charWide m_trail m_isMatch m_matchGroups m_allFrom m_allBefore m_founds m_pieces m_writtenMany m_templateWide m_tooMuch) f_MO_579 (Or.inl rfl) d_MO_all_28 h80.2.2 (Nat.le_of_ble_eq_true rfl) (fun _ => ⟨rfl, rfl⟩) (h80.2.1 (by decide)) ?_
    obtain ⟨G11, eG11⟩ : ∃ z : ab_G, z = List.set G9 80 (ab_ob 12 (mof 0 m_taped m_length m_out m_wide m_gathered m_sets m_ranges m_nodes m_at m_flags m_fault m_place m_numbered m_depth m_value m_isNot m_least0 m_most0 m_slot m_work m_got m_rowMany m_charAt m_charWide m_trail m_isMatch m_matchGroups m_allFrom m_allBefore 0 m_pieces m_writtenMany m_templateWide m_tooMuch)) := ⟨_, rfl⟩
    have h145 := h145.keep h80 eG11 (by decide)
    have h134 := h134.keep h80 eG11 (by decide)
    have h135 := h135.keep h80 eG11 (by decide)
    have h136 := h136.keep h80 eG11 (by decide)
    have h137 := h137.keep h80 eG11 (by decide)
    have h144 := h144.keep h80 eG11 (by decide)
    have h138 := h138.keep h80 eG11 (by decide)
    have h142 := h142.keep h80 eG11 (by decide)
    have h143 := h143.keep h80 eG11 (by decide)
    have h140 := h140.keep h80 eG11 (by decide)
    have h141 := h141.keep h80 eG11 (by decide)
    have h112 := h112.keep h80 eG11 (by decide)
    have h114 := h114.keep h80 eG11 (by decide)
    have h116 := h116.keep h80 eG11 (by decide)
    have h118 := h118.keep h80 eG11 (by decide)
    have h119 := h119.keep h80 eG11 (by decide)
    have h120 := h120.keep h80 eG11 (by decide)
    have h121 := h121.keep h80 eG11 (by decide)
    have h122 := h122.keep h80 eG11 (by decide)
    have h123 := h123.keep h80 eG11 (by decide)
    have h124 := h124.keep h80 eG11 (by decide)
    have h85 := h85.keep h80 eG11 (by decide)
    have h117 := h117.keep h80 eG11 (by decide)
    have h113 := h113.keep h80 eG11 (by decide)
    have hlen := (z_len eG11).trans hlen
    have hsl := (z_sl h80 eG11 rfl).trans hsl
    have hfr := hfr.wr h80 eG11 (by decide)
    have h80 := h80.kept eG11
    change ab_W _ _ _ (List.set G9 80 (ab_ob 12 (mof 0 m_taped m_length m_out m_wide m_gathered m_sets m_ranges m_nodes m_at m_flags m_fault m_place m_numbered m_depth m_value m_isNot m_least0 m_most0 m_slot m_work m_got m_rowMany m_charAt m_charWide m_trail m_isMatch m_matchGroups m_allFrom m_allBefore 0 m_pieces m_writtenMany m_templateWide m_tooMuch))) 31 [some (vR 80), some (vz s)] [] _
    rw [← eG11]
    refine ab_aload_n d_MO_all_31 rfl ?_
    refine ab_iload_n d_MO_all_32 rfl ?_
    refine ab_callV (d' := d - 1) (as := [vz s]) (st := []) (r := _) (z_MO_beginAll (o := o) (m_thrown := 0) (m_taped := m_taped) (m_length := m_length) (m_out := m_out) (m_wide := m_wide) (m_gathered := m_gathered) (m_sets := m_sets) (m_ranges := m_ranges) (m_nodes := m_nodes) (m_at := m_at) (m_flags := m_flags) (m_fault := m_fault) (m_place := m_place) (m_numbered := m_numbered) (m_depth := m_depth) (m_value := m_value) (m_isNot := m_isNot) (m_least0 := m_least0) (m_most0 := m_most0) (m_slot := m_slot) (m_work := m_work) (m_got := m_got) (m_rowMany := m_rowMany) (m_charAt := m_charAt) (m_charWide := m_charWide) (m_trail := m_trail) (m_isMatch := m_isMatch) (m_matchGroups := m_matchGroups) (m_allFrom := m_allFrom) (m_allBefore := m_allBefore) (m_founds := 0) (m_pieces := m_pieces) (m_writtenMany := m_writtenMany) (m_templateWide := m_templateWide) (m_tooMuch := m_tooMuch) (A_step := A_step) (A_next := A_next) (A_more := A_more) (A_classAt := A_classAt) (A_classMany := A_classMany) (A_classLow := A_classLow) (A_classHigh := A_classHigh) (A_subject := A_subject) (A_stepMany := A_stepMany) (A_entry := A_entry) (CN := CN) (ZN := ZN) (s := s) h80 h134 h137 h118 h119 h120 h121 h122 h123 h124 h85 h117 h113 (by omega) (by omega) (by omega) hp5_ jst jcl jch jsb jn (by omega)) (fun oc G2 h => by rcases h with ⟨_, _, _, _, _, h, _⟩ <;> exact ⟨_, h⟩) (by omega) m_MO_beginAll ml_MO_582 im_MO_beginAll se_MO_beginAll c_MO h80.2.2 (Nat.le_of_ble_eq_true rfl) d_MO_all_33 rfl ?_
    intro v G12 hq
    rcases hq with ⟨w213, c214, cw215, CN216, ZN217, hv, hfk, hlk, hsk, hN80, hN134, hN137, hq18, hq19, hq20⟩
    cases hv
    have h145 := hfk.get h145 (by decide)
    have h135 := hfk.get h135 (by decide)
    have h136 := hfk.get h136 (by decide)
    have h144 := hfk.get h144 (by decide)
    have h138 := hfk.get h138 (by decide)
    have h142 := hfk.get h142 (by decide)
    have h143 := hfk.get h143 (by decide)
    have h140 := hfk.get h140 (by decide)
    have h141 := hfk.get h141 (by decide)
    have h112 := hfk.get h112 (by decide)
    have h114 := hfk.get h114 (by decide)
    have h116 := hfk.get h116 (by decide)
    have h118 := hfk.get h118 (by decide)
    have h119 := hfk.get h119 (by decide)
    have h120 := hfk.get h120 (by decide)
    have h121 := hfk.get h121 (by decide)
    have h122 := hfk.get h122 (by decide)
    have h123 := hfk.get h123 (by decide)
    have h124 := hfk.get h124 (by decide)
    have h85 := hfk.get h85 (by decide)
    have h117 := hfk.get h117 (by decide)
    have h113 := hfk.get h113 (by decide)
    have hfr := hfr.tr hfk (by decide)
    have hlen := hlk.trans hlen
    have hsl := hsk.trans hsl
    have h80 := hN80
    have h134 := hN134
    have h137 := hN137
    change ab_W _ _ _ G12 36 [some (vR 80), some (vz s)] [] _
    refine y_MO_all_36 (m_thrown := 0) (m_taped := m_taped) (m_length := m_length) (m_out := m_out) (m_gathered := m_gathered) (m_sets := m_sets) (m_ranges := m_ranges) (m_nodes := m_nodes) (m_at := m_at) (m_flags := m_flags) (m_fault := m_fault) (m_place := m_place) (m_numbered := m_numbered) (m_depth := m_depth) (m_value := m_value) (m_isNot := m_isNot) (m_least0 := m_least0) (m_most0 := m_most0) (m_slot := m_slot) (m_work := m_work) (m_got := m_got) (m_rowMany := m_rowMany) (m_isMatch := m_isMatch) (m_matchGroups := m_matchGroups) (m_pieces := m_pieces) (m_writtenMany := m_writtenMany) (m_templateWide := m_templateWide) (m_tooMuch := m_tooMuch) (A_flagsOf := A_flagsOf) (A_step := A_step) (A_next := A_next) (A_more := A_more) (A_classAt := A_classAt) (A_classMany := A_classMany) (A_classLow := A_classLow) (A_classHigh := A_classHigh) (A_subject := A_subject) (A_stepMany := A_stepMany) (A_entry := A_entry) (CN := CN216) (v9 := (V6 s)) (s := s) (G0 := G12) (m_wide := w213) (m_charAt := c214) (m_charWide := cw215) (m_trail := m_trail) (m_allFrom := 0) (m_allBefore := (-1)) (JU := JU) (CO := CO) (ZN := ZN217) (ZS := ZS) (SP := SP) (PL := PL) (PT := PT) (TS := TS) (TO := TO) (m_founds := 0) (FA := FA) (by omega) (by omega) (by omega) hp5_ jst jcl jch jsb (by omega) (by omega) hq19 hq20 hp6_ (by omega) (Int.toNat (m_length + 1 - (-1)) + 1) h80 h134 h135 h136 h137 h144 h138 h142 h143 h140 h141 h116 h118 h119 h120 h121 h122 h123 h124 h85 h117 h113 h145 (by omega) (by omega) mxA_0 alK_0 hq18 jse jsp jpt jts jto fx.rf rfl rfl (by omega) (fun G21 w222 c223 cw224 t225 JU226 CO227 ZN228 ZS229 SP230 PL231 PT232 TS233 TO234 af235 ab236 FA237 n238 hN80 hN135 hN136 hN137 hN144 hN138 hN142 hN143 hN140 hN141 hN145 hq39 hq40 hq41 hq42 hq43 hq44 hq45 hq46 hfk hlk hsk => ?_)
    · have h134 := hfk.get h134 (by decide)
      have h112 := hfk.get h112 (by decide)
      have h114 := hfk.get h114 (by decide)
      have h116 := hfk.get h116 (by decide)
      have h118 := hfk.get h118 (by decide)
      have h119 := hfk.get h119 (by decide)
      have h120 := hfk.get h120 (by decide)
      have h121 := hfk.get h121 (by decide)
      have h122 := hfk.get h122 (by decide)
      have h123 := hfk.get h123 (by decide)
      have h124 := hfk.get h124 (by decide)
      have h85 := hfk.get h85 (by decide)
      have h117 := hfk.get h117 (by decide)
      have h113 := hfk.get h113 (by decide)
      have hfr := hfr.tr hfk (by decide)
      have hlen := hlk.trans hlen
      have hsl := hsk.trans hsl
      have h80 := hN80
      have h135 := hN135
      have h136 := hN136
      have h137 := hN137
      have h144 := hN144
      have h138 := hN138
      have h142 := hN142
      have h143 := hN143
      have h140 := hN140
      have h141 := hN141
      have h145 := hN145
      change ab_W _ _ _ G21 93 [some (vR 80), none] [] _
      refine ab_aload_n d_MO_all_93 rfl ?_
      refine ab_getf (fs := mof 0 m_taped m_length m_out w222 m_gathered m_sets m_ranges m_nodes m_at m_flags m_fault m_place m_numbered m_depth m_value m_isNot m_least0 m_most0 m_slot m_work m_got m_rowMany c223 cw224 t225 m_isMatch m_matchGroups af235 ab236 n238 m_pieces m_writtenMany m_templateWide m_tooMuch) f_MO_579 d_MO_all_94 h80.2.2 rfl ?_
      refine zz_iret rfl d_MO_all_97 ?_
      rw [hQ]; exact ⟨_, _, _, _, _, _, _, _, _, _, _, _, _, _, _, _, _, _, _, _, rfl, hfr, hlen, hsl, h80, h135, h136, h137, h144, h138, h142, h143, h140, h141, h134, h145, (by first | exact hq39 | exact rgs_w hq39 (by omega)), (by first | exact hq40 | exact rgs_w hq40 (by omega)), (by first | exact hq41 | exact rgs_w hq41 (by omega)), (by first | exact hq42 | exact rgs_w hq42 (by omega)), (by first | exact hq43 | exact rgs_w hq43 (by omega)), (by first | exact hq44 | exact rgs_w hq44 (by omega)), (by omega), (by exact Or.inl ⟨rfl, (hq4 (by omega)), rfl, hq46⟩)⟩
set_option maxRecDepth 100000 in
set_option maxHeartbeats 4000000 in
theorem z_MO_addPiece {X : ab_X} {d : Nat} {o : Nat → Nat} {G : ab_G} {m_thrown : Int} {m_taped : Int} {m_length : Int} {m_out : Int} {m_wide : Int} {m_gathered : Int} {m_sets : Int} {m_ranges : Int} {m_nodes : Int} {m_at : Int} {m_flags : Int} {m_fault : Int} {m_place : Int} {m_numbered : Int} {m_depth : Int} {m_value : Int} {m_isNot : Int} {m_least0 : Int} {m_most0 : Int} {m_slot : Int} {m_work : Int} {m_got : Int} {m_rowMany : Int} {m_charAt : Int} {m_charWide : Int} {m_trail : Int} {m_isMatch : Int} {m_matchGroups : Int} {m_allFrom : Int} {m_allBefore : Int} {m_founds : Int} {m_pieces : Int} {m_writtenMany : Int} {m_templateWide : Int} {m_tooMuch : Int} {FA : Int → Int} {x : Int} {y : Int} (h80 : cc o G 80 280 (ab_ob 12 (mof m_thrown m_taped m_length m_out m_wide m_gathered m_sets m_ranges m_nodes m_at m_flags m_fault m_place m_numbered m_depth m_value m_isNot m_least0 m_most0 m_slot m_work m_got m_rowMany m_charAt m_charWide m_trail m_isMatch m_matchGroups m_allFrom m_allBefore m_founds m_pieces m_writtenMany m_templateWide m_tooMuch))) (h146 : cc o G 146 346 (za 4100 FA)) (n18 : ab_n0 = 18) (cp : 0 ≤ m_pieces ∧ m_pieces ≤ 2049) : ab_F X d y_MO_addPiece (.code y_MO_addPiece b_MO_addPiece 3 none) [vR 80, vz x, vz y] G (fun oc G2 => oc = .returned none ∧ fx o o [280, 346] G G2 ∧ G2.length = G.length ∧ ab_slots G2 = ab_slots G ∧ cc o G2 80 280 (ab_ob 12 (mof m_thrown m_taped m_length m_out m_wide m_gathered m_sets m_ranges m_nodes m_at m_flags m_fault m_place m_numbered m_depth m_value m_isNot m_least0 m_most0 m_slot m_work m_got m_rowMany m_charAt m_charWide m_trail m_isMatch m_matchGroups m_allFrom m_allBefore m_founds (m_pieces + 1) m_writtenMany m_templateWide m_tooMuch)) ∧ cc o G2 146 346 (za 4100 (zu (zu FA (2 * m_pieces) x) ((2 * m_pieces) + 1) y))) := by
  refine ab_F_of (by decide +kernel) (Nat.le_of_ble_eq_true rfl) ?_
  obtain ⟨Q, hQ⟩ : ∃ z : Outcome → ab_G → Prop, z = (fun oc G2 => oc = .returned none ∧ fx o o [280, 346] G G2 ∧ G2.length = G.length ∧ ab_slots G2 = ab_slots G ∧ cc o G2 80 280 (ab_ob 12 (mof m_thrown m_taped m_length m_out m_wide m_gathered m_sets m_ranges m_nodes m_at m_flags m_fault m_place m_numbered m_depth m_value m_isNot m_least0 m_most0 m_slot m_work m_got m_rowMany m_charAt m_charWide m_trail m_isMatch m_matchGroups m_allFrom m_allBefore m_founds (m_pieces + 1) m_writtenMany m_templateWide m_tooMuch)) ∧ cc o G2 146 346 (za 4100 (zu (zu FA (2 * m_pieces) x) ((2 * m_pieces) + 1) y))) := ⟨_, rfl⟩
  rw [← hQ]
  change ab_W X (ab_pl y_MO_addPiece b_MO_addPiece 3 none) d G 0 [some (vR 80), some (vz x), some (vz y)] [] Q
  have hfr : fx o o [280, 346] G G := fx.rf
  have hlen : G.length = G.length := rfl
  have hsl : ab_slots G = ab_slots G := rfl
  refine ab_aload_n d_MO_addPiece_0 rfl ?_
  refine ab_getf (fs := mof m_thrown m_taped m_length m_out m_wide m_gathered m_sets m_ranges m_nodes m_at m_flags m_fault m_place m_numbered m_depth m_value m_isNot m_least0 m_most0 m_slot m_work m_got m_rowMany m_charAt m_charWide m_trail m_isMatch m_matchGroups m_allFrom m_allBefore m_founds m_pieces m_writtenMany m_templateWide m_tooMuch) f_MO_214 d_MO_addPiece_1 h80.2.2 rfl ?_
  refine zz_iconst d_MO_addPiece_4 ?_
  refine ab_aload_n d_MO_addPiece_5 rfl ?_
  refine ab_getf (fs := mof m_thrown m_taped m_length m_out m_wide m_gathered m_sets m_ranges m_nodes m_at m_flags m_fault m_place m_numbered m_depth m_value m_isNot m_least0 m_most0 m_slot m_work m_got m_rowMany m_charAt m_charWide m_trail m_isMatch m_matchGroups m_allFrom m_allBefore m_founds m_pieces m_writtenMany m_templateWide m_tooMuch) f_MO_588 d_MO_addPiece_6 h80.2.2 rfl ?_
  refine zz_imul d_MO_addPiece_9 ?_
  refine ab_iload_n d_MO_addPiece_10 rfl ?_
  refine zz_iast d_MO_addPiece_11 h146 (by omega) (h146.2.1 (by decide)) ?_
  obtain ⟨G1, eG1⟩ : ∃ z : ab_G, z = List.set G 146 (za 4100 (zu FA (2 * m_pieces) x)) := ⟨_, rfl⟩
  have h80 := h80.keep h146 eG1 (by decide)
  have hlen := (z_len eG1).trans hlen
  have hsl := (z_sl h146 eG1 rfl).trans hsl
  have hfr := hfr.wr h146 eG1 (by decide)
  have h146 := h146.kept eG1
  change ab_W _ _ _ (List.set G 146 (za 4100 (zu FA (2 * m_pieces) x))) 12 [some (vR 80), some (vz x), some (vz y)] [] _
  rw [← eG1]
  refine ab_aload_n d_MO_addPiece_12 rfl ?_
  refine ab_getf (fs := mof m_thrown m_taped m_length m_out m_wide m_gathered m_sets m_ranges m_nodes m_at m_flags m_fault m_place m_numbered m_depth m_value m_isNot m_least0 m_most0 m_slot m_work m_got m_rowMany m_charAt m_charWide m_trail m_isMatch m_matchGroups m_allFrom m_allBefore m_founds m_pieces m_writtenMany m_templateWide m_tooMuch) f_MO_214 d_MO_addPiece_13 h80.2.2 rfl ?_
  refine zz_iconst d_MO_addPiece_16 ?_
  refine ab_aload_n d_MO_addPiece_17 rfl ?_
  refine ab_getf (fs := mof m_thrown m_taped m_length m_out m_wide m_gathered m_sets m_ranges m_nodes m_at m_flags m_fault m_place m_numbered m_depth m_value m_isNot m_least0 m_most0 m_slot m_work m_got m_rowMany m_charAt m_charWide m_trail m_isMatch m_matchGroups m_allFrom m_allBefore m_founds m_pieces m_writtenMany m_templateWide m_tooMuch) f_MO_588 d_MO_addPiece_18 h80.2.2 rfl ?_
  refine zz_imul d_MO_addPiece_21 ?_
  refine zz_iconst d_MO_addPiece_22 ?_
  refine zz_iadd d_MO_addPiece_23 ?_
  refine ab_iload_n d_MO_addPiece_24 rfl ?_
  refine zz_iast d_MO_addPiece_25 h146 (by omega) (h146.2.1 (by decide)) ?_
  obtain ⟨G2, eG2⟩ : ∃ z : ab_G, z = List.set G1 146 (za 4100 (zu (zu FA (2 * m_pieces) x) ((2 * m_pieces) + 1) y)) := ⟨_, rfl⟩
  have h80 := h80.keep h146 eG2 (by decide)
  have hlen := (z_len eG2).trans hlen
  have hsl := (z_sl h146 eG2 rfl).trans hsl
  have hfr := hfr.wr h146 eG2 (by decide)
  have h146 := h146.kept eG2
  change ab_W _ _ _ (List.set G1 146 (za 4100 (zu (zu FA (2 * m_pieces) x) ((2 * m_pieces) + 1) y))) 26 [some (vR 80), some (vz x), some (vz y)] [] _
  rw [← eG2]
  refine ab_aload_n d_MO_addPiece_26 rfl ?_
  refine ab_dup d_MO_addPiece_27 rfl ?_
  refine ab_getf (fs := mof m_thrown m_taped m_length m_out m_wide m_gathered m_sets m_ranges m_nodes m_at m_flags m_fault m_place m_numbered m_depth m_value m_isNot m_least0 m_most0 m_slot m_work m_got m_rowMany m_charAt m_charWide m_trail m_isMatch m_matchGroups m_allFrom m_allBefore m_founds m_pieces m_writtenMany m_templateWide m_tooMuch) f_MO_588 d_MO_addPiece_28 h80.2.2 rfl ?_
  refine zz_iconst d_MO_addPiece_31 ?_
  refine zz_iadd d_MO_addPiece_32 ?_
  refine ab_putf (fs := mof m_thrown m_taped m_length m_out m_wide m_gathered m_sets m_ranges m_nodes m_at m_flags m_fault m_place m_numbered m_depth m_value m_isNot m_least0 m_most0 m_slot m_work m_got m_rowMany m_charAt m_charWide m_trail m_isMatch m_matchGroups m_allFrom m_allBefore m_founds m_pieces m_writtenMany m_templateWide m_tooMuch) f_MO_588 (Or.inl rfl) d_MO_addPiece_33 h80.2.2 (Nat.le_of_ble_eq_true rfl) (fun _ => ⟨rfl, rfl⟩) (h80.2.1 (by decide)) ?_
  obtain ⟨G3, eG3⟩ : ∃ z : ab_G, z = List.set G2 80 (ab_ob 12 (mof m_thrown m_taped m_length m_out m_wide m_gathered m_sets m_ranges m_nodes m_at m_flags m_fault m_place m_numbered m_depth m_value m_isNot m_least0 m_most0 m_slot m_work m_got m_rowMany m_charAt m_charWide m_trail m_isMatch m_matchGroups m_allFrom m_allBefore m_founds (m_pieces + 1) m_writtenMany m_templateWide m_tooMuch)) := ⟨_, rfl⟩
  have h146 := h146.keep h80 eG3 (by decide)
  have hlen := (z_len eG3).trans hlen
  have hsl := (z_sl h80 eG3 rfl).trans hsl
  have hfr := hfr.wr h80 eG3 (by decide)
  have h80 := h80.kept eG3
  change ab_W _ _ _ (List.set G2 80 (ab_ob 12 (mof m_thrown m_taped m_length m_out m_wide m_gathered m_sets m_ranges m_nodes m_at m_flags m_fault m_place m_numbered m_depth m_value m_isNot m_least0 m_most0 m_slot m_work m_got m_rowMany m_charAt m_charWide m_trail m_isMatch m_matchGroups m_allFrom m_allBefore m_founds (m_pieces + 1) m_writtenMany m_templateWide m_tooMuch))) 36 [some (vR 80), some (vz x), some (vz y)] [] _
  rw [← eG3]
  refine ab_vret rfl d_MO_addPiece_36 ?_
  rw [hQ]; exact ⟨rfl, hfr, hlen, hsl, h80, h146⟩
set_option maxRecDepth 100000 in
set_option maxHeartbeats 4000000 in
theorem y_MO_split1_38 {X : ab_X} {d : Nat} {Q : Outcome → ab_G → Prop} {o : Nat → Nat} {G0 : ab_G} {m_thrown : Int} {m_taped : Int} {m_length : Int} {m_out : Int} {m_gathered : Int} {m_sets : Int} {m_ranges : Int} {m_nodes : Int} {m_at : Int} {m_flags : Int} {m_fault : Int} {m_place : Int} {m_numbered : Int} {m_depth : Int} {m_value : Int} {m_isNot : Int} {m_least0 : Int} {m_most0 : Int} {m_slot : Int} {m_work : Int} {m_got : Int} {m_rowMany : Int} {m_isMatch : Int} {m_matchGroups : Int} {m_founds : Int} {m_writtenMany : Int} {m_templateWide : Int} {m_tooMuch : Int} {A_flagsOf : Int → Int} {A_step : Int → Int} {A_next : Int → Int} {A_more : Int → Int} {A_classAt : Int → Int} {A_classMany : Int → Int} {A_classLow : Int → Int} {A_classHigh : Int → Int} {A_subject : Int → Int} {A_stepMany : Int → Int} {A_entry : Int → Int} {CN : Int → Int} {v9 : Sn} {s : Int} (n18 : ab_n0 = 18) (cle : 0 ≤ m_length ∧ m_length ≤ 2000) (cs : 0 ≤ s ∧ s ≤ 5 ∧ 0 ≤ (A_stepMany s) ∧ (A_stepMany s) ≤ 12500) (jsg : sgood A_step A_next A_more A_classAt A_classMany (12500 * s) (A_stepMany s)) (jst : rgs A_step 75000 0 6) (jcl : rgs A_classLow 3600 0 1114111) (jch : rgs A_classHigh 3600 0 1114111) (jsb : rgs A_subject 2000 0 255) (cen : 0 ≤ (A_entry s) ∧ (A_entry s) < (A_stepMany s)) (cfl : 0 ≤ A_flagsOf s ∧ A_flagsOf s ≤ 31) (hnr : nrows A_step A_next A_more A_classAt A_classMany A_classLow A_classHigh A_subject CN m_length (12500 * s) (A_stepMany s) m_length 0 (0 - 1)) (hnt : ntK A_step A_next A_more A_classAt A_classMany A_classLow A_classHigh A_subject CN m_length (12500 * s) (A_stepMany s) m_length 0 0) (jps : prZ A_step A_next A_more A_classAt A_classMany A_classLow A_classHigh s (A_stepMany s) (A_entry s) v9) (hd : 10 ≤ d) : ∀ (mz : Nat) {G : ab_G} {m_wide : Int} {m_charAt : Int} {m_charWide : Int} {m_trail : Int} {m_allFrom : Int} {m_allBefore : Int} {JU : Int → Int} {CO : Int → Int} {ZN : Int → Int} {ZS : Int → Int} {SP : Int → Int} {PL : Int → Int} {PT : Int → Int} {TS : Int → Int} {TO : Int → Int} {m_pieces : Int} {FA : Int → Int} {la : Int}, (cc o G 80 280 (ab_ob 12 (mof m_thrown m_taped m_length m_out m_wide m_gathered m_sets m_ranges m_nodes m_at m_flags m_fault m_place m_numbered m_depth m_value m_isNot m_least0 m_most0 m_slot m_work m_got m_rowMany m_charAt m_charWide m_trail m_isMatch m_matchGroups m_allFrom m_allBefore m_founds m_pieces m_writtenMany m_templateWide m_tooMuch))) → (cc o G 134 334 (zl 392196 CN)) → (cc o G 135 335 (zl 392196 JU)) → (cc o G 136 336 (zl 392196 CO)) → (cc o G 137 337 (zb 12500 ZN)) → (cc o G 144 344 (zb 12500 ZS)) → (cc o G 138 338 (za 20 SP)) → (cc o G 142 342 (za 25000 PL)) → (cc o G 143 343 (za 25000 PT)) → (cc o G 140 340 (za 12500 TS)) → (cc o G 141 341 (za 12500 TO)) → (cc o G 116 316 (za 6 A_flagsOf)) → (cc o G 118 318 (za 75000 A_step)) → (cc o G 119 319 (za 75000 A_next)) → (cc o G 120 320 (za 75000 A_more)) → (cc o G 121 321 (za 75000 A_classAt)) → (cc o G 122 322 (za 75000 A_classMany)) → (cc o G 123 323 (za 3600 A_classLow)) → (cc o G 124 324 (za 3600 A_classHigh)) → (cc o G 85 285 (za 2000 A_subject)) → (cc o G 117 317 (za 6 A_stepMany)) → (cc o G 113 313 (za 6 A_entry)) → (cc o G 146 346 (za 4100 FA)) → (-1 ≤ m_allBefore ∧ m_allBefore ≤ m_allFrom ∧ 0 ≤ m_allFrom ∧ m_allFrom ≤ m_length + 1 ∧ m_allBefore ≤ m_length) → (0 ≤ m_pieces ∧ m_pieces ≤ m_allBefore + 1) → (0 ≤ la ∧ la ≤ m_length) → (mxA m_allFrom m_allBefore) → (spK v9 A_subject m_length (1 - A_flagsOf s / 16) m_pieces m_allBefore la FA) → (rgs ZN 12500 0 1) → (rgs ZS 12500 0 1) → (rgs SP 20 (-1) 2000) → (rgs PT 25000 0 12500) → (rgs TS 12500 0 19) → (rgs TO 12500 (-1) 2000) → (fx o o [280, 335, 336, 337, 344, 338, 342, 343, 340, 341, 346] G0 G) → (G.length = G0.length) → (ab_slots G = ab_slots G0) → (Int.toNat (m_length + 1 - m_allBefore) < mz) → (∀ (G2 : ab_G) (w2 : Int) (c2 : Int) (cw2 : Int) (t2 : Int) (JU2 : Int → Int) (CO2 : Int → Int) (ZN2 : Int → Int) (ZS2 : Int → Int) (SP2 : Int → Int) (PL2 : Int → Int) (PT2 : Int → Int) (TS2 : Int → Int) (TO2 : Int → Int) (af2 : Int) (ab2 : Int) (FA2 : Int → Int) (n2 : Int) (la2 : Int), (cc o G2 80 280 (ab_ob 12 (mof m_thrown m_taped m_length m_out w2 m_gathered m_sets m_ranges m_nodes m_at m_flags m_fault m_place m_numbered m_depth m_value m_isNot m_least0 m_most0 m_slot m_work m_got m_rowMany c2 cw2 t2 m_isMatch m_matchGroups af2 ab2 m_founds n2 m_writtenMany m_templateWide m_tooMuch))) → (cc o G2 135 335 (zl 392196 JU2)) → (cc o G2 136 336 (zl 392196 CO2)) → (cc o G2 137 337 (zb 12500 ZN2)) → (cc o G2 144 344 (zb 12500 ZS2)) → (cc o G2 138 338 (za 20 SP2)) → (cc o G2 142 342 (za 25000 PL2)) → (cc o G2 143 343 (za 25000 PT2)) → (cc o G2 140 340 (za 12500 TS2)) → (cc o G2 141 341 (za 12500 TO2)) → (cc o G2 146 346 (za 4100 FA2)) → (rgs ZN2 12500 0 1) → (rgs ZS2 12500 0 1) → (rgs SP2 20 (-1) 2000) → (rgs PT2 25000 0 12500) → (rgs TS2 12500 0 19) → (rgs TO2 12500 (-1) 2000) → (0 ≤ n2 ∧ n2 ≤ m_length + 1) → (0 ≤ la2 ∧ la2 ≤ m_length) → (spK v9 A_subject m_length (1 - A_flagsOf s / 16) n2 ab2 la2 FA2) → (nxC v9 A_subject m_length (1 - A_flagsOf s / 16) ab2 20 0 SP2) → (fx o o [280, 335, 336, 337, 344, 338, 342, 343, 340, 341, 346] G0 G2) → (G2.length = G0.length) → (ab_slots G2 = ab_slots G0) → ab_W X (ab_pl y_MO_split1 b_MO_split1 3 (some (.int))) d G2 107 [some (vR 80), none, some (vz la2)] [] Q) → ab_W X (ab_pl y_MO_split1 b_MO_split1 3 (some (.int))) d G 38 [some (vR 80), some (vz s), some (vz la)] [] Q := by
  intro mz
  induction mz with
  | zero => intro G m_wide m_charAt m_charWide m_trail m_allFrom m_allBefore JU CO ZN ZS SP PL PT TS TO m_pieces FA la h80 h134 h135 h136 h137 h144 h138 h142 h143 h140 h141 h116 h118 h119 h120 h121 h122 h123 h124 h85 h117 h113 h146 cab cnt cla jmx jal jn jse jsp jpt jts jto hfr hlen hsl hm hk0; exact absurd hm (Nat.not_lt_zero _)
  | succ mz ih =>
    intro G m_wide m_charAt m_charWide m_trail m_allFrom m_allBefore JU CO ZN ZS SP PL PT TS TO m_pieces FA la h80 h134 h135 h136 h137 h144 h138 h142 h143 h140 h141 h116 h118 h119 h120 h121 h122 h123 h124 h85 h117 h113 h146 cab cnt cla jmx jal jn jse jsp jpt jts jto hfr hlen hsl hm hk0
    refine ab_aload_n d_MO_split1_38 rfl ?_
    refine ab_iload_n d_MO_split1_39 rfl ?_
    refine ab_callV (d' := d - 1) (as := [vz s]) (st := []) (r := _) (z_MO_nextMatch (o := o) (m_thrown := m_thrown) (m_taped := m_taped) (m_length := m_length) (m_out := m_out) (m_wide := m_wide) (m_gathered := m_gathered) (m_sets := m_sets) (m_ranges := m_ranges) (m_nodes := m_nodes) (m_at := m_at) (m_flags := m_flags) (m_fault := m_fault) (m_place := m_place) (m_numbered := m_numbered) (m_depth := m_depth) (m_value := m_value) (m_isNot := m_isNot) (m_least0 := m_least0) (m_most0 := m_most0) (m_slot := m_slot) (m_work := m_work) (m_got := m_got) (m_rowMany := m_rowMany) (m_charAt := m_charAt) (m_charWide := m_charWide) (m_trail := m_trail) (m_isMatch := m_isMatch) (m_matchGroups := m_matchGroups) (m_allFrom := m_allFrom) (m_allBefore := m_allBefore) (m_founds := m_founds) (m_pieces := m_pieces) (m_writtenMany := m_writtenMany) (m_templateWide := m_templateWide) (m_tooMuch := m_tooMuch) (A_flagsOf := A_flagsOf) (A_step := A_step) (A_next := A_next) (A_more := A_more) (A_classAt := A_classAt) (A_classMany := A_classMany) (A_classLow := A_classLow) (A_classHigh := A_classHigh) (A_subject := A_subject) (A_stepMany := A_stepMany) (A_entry := A_entry) (CN := CN) (JU := JU) (CO := CO) (ZN := ZN) (ZS := ZS) (SP := SP) (PL := PL) (PT := PT) (TS := TS) (TO := TO) (s := s) (v9 := v9) h80 h134 h135 h136 h137 h144 h138 h142 h143 h140 h141 h116 h118 h119 h120 h121 h122 h123 h124 h85 h117 h113 (by omega) (by omega) (by omega) jsg jst jcl jch jsb (by omega) (by omega) hnr hnt jps (by omega) jmx jn jse jsp jpt jts jto (by omega)) (fun oc G2 h => by rcases h with ⟨_, _, _, _, _, _, _, _, _, _, _, _, _, _, _, h, _⟩ | ⟨_, _, _, _, _, _, _, _, _, _, _, _, _, _, _, h, _⟩ <;> exact ⟨_, h⟩) (by omega) m_MO_nextMatch ml_MO_585 im_MO_nextMatch se_MO_nextMatch c_MO h80.2.2 (Nat.le_of_ble_eq_true rfl) d_MO_split1_40 rfl ?_
    intro v G1 hq
    rcases hq with ⟨w22, c23, cw24, t25, JU26, CO27, ZN28, ZS29, SP210, PL211, PT212, TS213, TO214, af215, ab216, hv, hfk, hlk, hsk, hN80, hN135, hN136, hN137, hN144, hN138, hN142, hN143, hN140, hN141, hq17, hq18, hq19, hq20, hq21, hq22, hq23, hq24, hq25⟩ | ⟨w226, c227, cw228, t229, JU230, CO231, ZN232, ZS233, SP234, PL235, PT236, TS237, TO238, af239, ab240, hv, hfk, hlk, hsk, hN80, hN135, hN136, hN137, hN144, hN138, hN142, hN143, hN140, hN141, hq41, hq42, hq43, hq44, hq45, hq46, hq47, hq48⟩
    · cases hv
      have h134 := hfk.get h134 (by decide)
      have h116 := hfk.get h116 (by decide)
      have h118 := hfk.get h118 (by decide)
      have h119 := hfk.get h119 (by decide)
      have h120 := hfk.get h120 (by decide)
      have h121 := hfk.get h121 (by decide)
      have h122 := hfk.get h122 (by decide)
      have h123 := hfk.get h123 (by decide)
      have h124 := hfk.get h124 (by decide)
      have h85 := hfk.get h85 (by decide)
      have h117 := hfk.get h117 (by decide)
      have h113 := hfk.get h113 (by decide)
      have h146 := hfk.get h146 (by decide)
      have hfr := hfr.tr hfk (by decide)
      have hlen := hlk.trans hlen
      have hsl := hsk.trans hsl
      have h80 := hN80
      have h135 := hN135
      have h136 := hN136
      have h137 := hN137
      have h144 := hN144
      have h138 := hN138
      have h142 := hN142
      have h143 := hN143
      have h140 := hN140
      have h141 := hN141
      change ab_W _ _ _ G1 43 [some (vR 80), some (vz s), some (vz la)] [vz 1] _
      refine zz_if_eq (tgt := 107) d_MO_split1_43 (by decide) (by decide) (fun c49 => absurd c49 (by decide)) (fun c49 => ?_)
      refine ab_aload_n d_MO_split1_46 rfl ?_
      refine ab_getf (fs := mof m_thrown m_taped m_length m_out w22 m_gathered m_sets m_ranges m_nodes m_at m_flags m_fault m_place m_numbered m_depth m_value m_isNot m_least0 m_most0 m_slot m_work m_got m_rowMany c23 cw24 t25 m_isMatch m_matchGroups af215 ab216 m_founds m_pieces m_writtenMany m_templateWide m_tooMuch) f_MO_190 d_MO_split1_47 h80.2.2 rfl ?_
      refine zz_iconst d_MO_split1_50 ?_
      refine zz_iald d_MO_split1_51 h138 (by omega) ?_
      refine ab_aload_n d_MO_split1_52 rfl ?_
      refine ab_getf (fs := mof m_thrown m_taped m_length m_out w22 m_gathered m_sets m_ranges m_nodes m_at m_flags m_fault m_place m_numbered m_depth m_value m_isNot m_least0 m_most0 m_slot m_work m_got m_rowMany c23 cw24 t25 m_isMatch m_matchGroups af215 ab216 m_founds m_pieces m_writtenMany m_templateWide m_tooMuch) f_MO_190 d_MO_split1_53 h80.2.2 rfl ?_
      refine zz_iconst d_MO_split1_56 ?_
      refine zz_iald d_MO_split1_57 h138 (by omega) ?_
      refine zz_icmp_ne (tgt := 86) d_MO_split1_58 (by decide) (by omega) (by omega) (fun c50 => ?_) (fun c50 => ?_)
      · refine ab_aload_n d_MO_split1_86 rfl ?_
        refine ab_iload_n d_MO_split1_87 rfl ?_
        refine ab_aload_n d_MO_split1_88 rfl ?_
        refine ab_getf (fs := mof m_thrown m_taped m_length m_out w22 m_gathered m_sets m_ranges m_nodes m_at m_flags m_fault m_place m_numbered m_depth m_value m_isNot m_least0 m_most0 m_slot m_work m_got m_rowMany c23 cw24 t25 m_isMatch m_matchGroups af215 ab216 m_founds m_pieces m_writtenMany m_templateWide m_tooMuch) f_MO_190 d_MO_split1_89 h80.2.2 rfl ?_
        refine zz_iconst d_MO_split1_92 ?_
        refine zz_iald d_MO_split1_93 h138 (by omega) ?_
        refine ab_callV (d' := d - 1) (as := [vz la, vz (SP210 0)]) (st := []) (r := _) (z_MO_addPiece (o := o) (m_thrown := m_thrown) (m_taped := m_taped) (m_length := m_length) (m_out := m_out) (m_wide := w22) (m_gathered := m_gathered) (m_sets := m_sets) (m_ranges := m_ranges) (m_nodes := m_nodes) (m_at := m_at) (m_flags := m_flags) (m_fault := m_fault) (m_place := m_place) (m_numbered := m_numbered) (m_depth := m_depth) (m_value := m_value) (m_isNot := m_isNot) (m_least0 := m_least0) (m_most0 := m_most0) (m_slot := m_slot) (m_work := m_work) (m_got := m_got) (m_rowMany := m_rowMany) (m_charAt := c23) (m_charWide := cw24) (m_trail := t25) (m_isMatch := m_isMatch) (m_matchGroups := m_matchGroups) (m_allFrom := af215) (m_allBefore := ab216) (m_founds := m_founds) (m_pieces := m_pieces) (m_writtenMany := m_writtenMany) (m_templateWide := m_templateWide) (m_tooMuch := m_tooMuch) (FA := FA) (x := la) (y := (SP210 0)) h80 h146 (by omega) (by omega)) (fun oc G2 h => by rcases h with ⟨h, _⟩ <;> exact ⟨_, h⟩) (by omega) m_MO_addPiece ml_MO_591 im_MO_addPiece se_MO_addPiece c_MO h80.2.2 (Nat.le_of_ble_eq_true rfl) d_MO_split1_94 rfl ?_
        intro v G51 hq
        rcases hq with ⟨hv, hfk, hlk, hsk, hN80, hN146⟩
        cases hv
        have h134 := hfk.get h134 (by decide)
        have h135 := hfk.get h135 (by decide)
        have h136 := hfk.get h136 (by decide)
        have h137 := hfk.get h137 (by decide)
        have h144 := hfk.get h144 (by decide)
        have h138 := hfk.get h138 (by decide)
        have h142 := hfk.get h142 (by decide)
        have h143 := hfk.get h143 (by decide)
        have h140 := hfk.get h140 (by decide)
        have h141 := hfk.get h141 (by decide)
        have h116 := hfk.get h116 (by decide)
        have h118 := hfk.get h118 (by decide)
        have h119 := hfk.get h119 (by decide)
        have h120 := hfk.get h120 (by decide)
        have h121 := hfk.get h121 (by decide)
        have h122 := hfk.get h122 (by decide)
        have h123 := hfk.get h123 (by decide)
        have h124 := hfk.get h124 (by decide)
        have h85 := hfk.get h85 (by decide)
        have h117 := hfk.get h117 (by decide)
        have h113 := hfk.get h113 (by decide)
        have hfr := hfr.tr hfk (by decide)
        have hlen := hlk.trans hlen
        have hsl := hsk.trans hsl
        have h80 := hN80
        have h146 := hN146
        change ab_W _ _ _ G51 97 [some (vR 80), some (vz s), some (vz la)] [] _
        refine ab_aload_n d_MO_split1_97 rfl ?_
        refine ab_getf (fs := mof m_thrown m_taped m_length m_out w22 m_gathered m_sets m_ranges m_nodes m_at m_flags m_fault m_place m_numbered m_depth m_value m_isNot m_least0 m_most0 m_slot m_work m_got m_rowMany c23 cw24 t25 m_isMatch m_matchGroups af215 ab216 m_founds (m_pieces + 1) m_writtenMany m_templateWide m_tooMuch) f_MO_190 d_MO_split1_98 h80.2.2 rfl ?_
        refine zz_iconst d_MO_split1_101 ?_
        refine zz_iald d_MO_split1_102 h138 (by omega) ?_
        refine ab_istore_n d_MO_split1_103 (Nat.le_of_ble_eq_true rfl) (Nat.le_of_ble_eq_true rfl) rfl ?_
        change ab_W _ _ _ G51 104 [some (vR 80), some (vz s), some (vz (SP210 1))] [] _
        refine ab_goto (tgt := 38) d_MO_split1_104 (by decide) ?_
        exact ih (m_wide := w22) (m_charAt := c23) (m_charWide := cw24) (m_trail := t25) (m_allFrom := af215) (m_allBefore := ab216) (JU := JU26) (CO := CO27) (ZN := ZN28) (ZS := ZS29) (SP := SP210) (PL := PL211) (PT := PT212) (TS := TS213) (TO := TO214) (m_pieces := (m_pieces + 1)) (FA := (zu (zu FA (2 * m_pieces) la) ((2 * m_pieces) + 1) (SP210 0))) (la := (SP210 1)) h80 h134 h135 h136 h137 h144 h138 h142 h143 h140 h141 h116 h118 h119 h120 h121 h122 h123 h124 h85 h117 h113 h146 (by omega) (by omega) (by omega) (mxA_s (by omega) (by omega)) (spK_s jal hq25 (by omega) (by omega) (fun h => by omega) (fun i a b => by rw [zu_ne (by omega), zu_ne (by omega)]) (by rw [zu_ne (by omega), zu_self]) (zu_self _ _ _)) hq17 hq18 hq19 hq20 hq21 hq22 hfr hlen hsl (by omega) hk0
      · refine ab_aload_n d_MO_split1_61 rfl ?_
        refine ab_getf (fs := mof m_thrown m_taped m_length m_out w22 m_gathered m_sets m_ranges m_nodes m_at m_flags m_fault m_place m_numbered m_depth m_value m_isNot m_least0 m_most0 m_slot m_work m_got m_rowMany c23 cw24 t25 m_isMatch m_matchGroups af215 ab216 m_founds m_pieces m_writtenMany m_templateWide m_tooMuch) f_MO_190 d_MO_split1_62 h80.2.2 rfl ?_
        refine zz_iconst d_MO_split1_65 ?_
        refine zz_iald d_MO_split1_66 h138 (by omega) ?_
        refine zz_if_eq (tgt := 38) d_MO_split1_67 (by decide) (by omega) (fun c52 => ?_) (fun c52 => ?_)
        · exact ih (m_wide := w22) (m_charAt := c23) (m_charWide := cw24) (m_trail := t25) (m_allFrom := af215) (m_allBefore := ab216) (JU := JU26) (CO := CO27) (ZN := ZN28) (ZS := ZS29) (SP := SP210) (PL := PL211) (PT := PT212) (TS := TS213) (TO := TO214) (m_pieces := m_pieces) (FA := FA) (la := la) h80 h134 h135 h136 h137 h144 h138 h142 h143 h140 h141 h116 h118 h119 h120 h121 h122 h123 h124 h85 h117 h113 h146 (by omega) (by omega) (by omega) (mxA_s (by omega) (by omega)) (spK_e jal hq25 (by omega) (by omega) (by first | (left; omega) | (right; omega))) hq17 hq18 hq19 hq20 hq21 hq22 hfr hlen hsl (by omega) hk0
        · refine ab_aload_n d_MO_split1_70 rfl ?_
          refine ab_getf (fs := mof m_thrown m_taped m_length m_out w22 m_gathered m_sets m_ranges m_nodes m_at m_flags m_fault m_place m_numbered m_depth m_value m_isNot m_least0 m_most0 m_slot m_work m_got m_rowMany c23 cw24 t25 m_isMatch m_matchGroups af215 ab216 m_founds m_pieces m_writtenMany m_templateWide m_tooMuch) f_MO_190 d_MO_split1_71 h80.2.2 rfl ?_
          refine zz_iconst d_MO_split1_74 ?_
          refine zz_iald d_MO_split1_75 h138 (by omega) ?_
          refine ab_aload_n d_MO_split1_76 rfl ?_
          refine ab_getf (fs := mof m_thrown m_taped m_length m_out w22 m_gathered m_sets m_ranges m_nodes m_at m_flags m_fault m_place m_numbered m_depth m_value m_isNot m_least0 m_most0 m_slot m_work m_got m_rowMany c23 cw24 t25 m_isMatch m_matchGroups af215 ab216 m_founds m_pieces m_writtenMany m_templateWide m_tooMuch) f_MO_510 d_MO_split1_77 h80.2.2 rfl ?_
          refine zz_icmp_ne (tgt := 86) d_MO_split1_80 (by decide) (by omega) (by omega) (fun c53 => ?_) (fun c53 => ?_)
          · refine ab_aload_n d_MO_split1_86 rfl ?_
            refine ab_iload_n d_MO_split1_87 rfl ?_
            refine ab_aload_n d_MO_split1_88 rfl ?_
            refine ab_getf (fs := mof m_thrown m_taped m_length m_out w22 m_gathered m_sets m_ranges m_nodes m_at m_flags m_fault m_place m_numbered m_depth m_value m_isNot m_least0 m_most0 m_slot m_work m_got m_rowMany c23 cw24 t25 m_isMatch m_matchGroups af215 ab216 m_founds m_pieces m_writtenMany m_templateWide m_tooMuch) f_MO_190 d_MO_split1_89 h80.2.2 rfl ?_
            refine zz_iconst d_MO_split1_92 ?_
            refine zz_iald d_MO_split1_93 h138 (by omega) ?_
            refine ab_callV (d' := d - 1) (as := [vz la, vz (SP210 0)]) (st := []) (r := _) (z_MO_addPiece (o := o) (m_thrown := m_thrown) (m_taped := m_taped) (m_length := m_length) (m_out := m_out) (m_wide := w22) (m_gathered := m_gathered) (m_sets := m_sets) (m_ranges := m_ranges) (m_nodes := m_nodes) (m_at := m_at) (m_flags := m_flags) (m_fault := m_fault) (m_place := m_place) (m_numbered := m_numbered) (m_depth := m_depth) (m_value := m_value) (m_isNot := m_isNot) (m_least0 := m_least0) (m_most0 := m_most0) (m_slot := m_slot) (m_work := m_work) (m_got := m_got) (m_rowMany := m_rowMany) (m_charAt := c23) (m_charWide := cw24) (m_trail := t25) (m_isMatch := m_isMatch) (m_matchGroups := m_matchGroups) (m_allFrom := af215) (m_allBefore := ab216) (m_founds := m_founds) (m_pieces := m_pieces) (m_writtenMany := m_writtenMany) (m_templateWide := m_templateWide) (m_tooMuch := m_tooMuch) (FA := FA) (x := la) (y := (SP210 0)) h80 h146 (by omega) (by omega)) (fun oc G2 h => by rcases h with ⟨h, _⟩ <;> exact ⟨_, h⟩) (by omega) m_MO_addPiece ml_MO_591 im_MO_addPiece se_MO_addPiece c_MO h80.2.2 (Nat.le_of_ble_eq_true rfl) d_MO_split1_94 rfl ?_
            intro v G54 hq
            rcases hq with ⟨hv, hfk, hlk, hsk, hN80, hN146⟩
            cases hv
            have h134 := hfk.get h134 (by decide)
            have h135 := hfk.get h135 (by decide)
            have h136 := hfk.get h136 (by decide)
            have h137 := hfk.get h137 (by decide)
            have h144 := hfk.get h144 (by decide)
            have h138 := hfk.get h138 (by decide)
            have h142 := hfk.get h142 (by decide)
            have h143 := hfk.get h143 (by decide)
            have h140 := hfk.get h140 (by decide)
            have h141 := hfk.get h141 (by decide)
            have h116 := hfk.get h116 (by decide)
            have h118 := hfk.get h118 (by decide)
            have h119 := hfk.get h119 (by decide)
            have h120 := hfk.get h120 (by decide)
            have h121 := hfk.get h121 (by decide)
            have h122 := hfk.get h122 (by decide)
            have h123 := hfk.get h123 (by decide)
            have h124 := hfk.get h124 (by decide)
            have h85 := hfk.get h85 (by decide)
            have h117 := hfk.get h117 (by decide)
            have h113 := hfk.get h113 (by decide)
            have hfr := hfr.tr hfk (by decide)
            have hlen := hlk.trans hlen
            have hsl := hsk.trans hsl
            have h80 := hN80
            have h146 := hN146
            change ab_W _ _ _ G54 97 [some (vR 80), some (vz s), some (vz la)] [] _
            refine ab_aload_n d_MO_split1_97 rfl ?_
            refine ab_getf (fs := mof m_thrown m_taped m_length m_out w22 m_gathered m_sets m_ranges m_nodes m_at m_flags m_fault m_place m_numbered m_depth m_value m_isNot m_least0 m_most0 m_slot m_work m_got m_rowMany c23 cw24 t25 m_isMatch m_matchGroups af215 ab216 m_founds (m_pieces + 1) m_writtenMany m_templateWide m_tooMuch) f_MO_190 d_MO_split1_98 h80.2.2 rfl ?_
            refine zz_iconst d_MO_split1_101 ?_
            refine zz_iald d_MO_split1_102 h138 (by omega) ?_
            refine ab_istore_n d_MO_split1_103 (Nat.le_of_ble_eq_true rfl) (Nat.le_of_ble_eq_true rfl) rfl ?_
            change ab_W _ _ _ G54 104 [some (vR 80), some (vz s), some (vz (SP210 1))] [] _
            refine ab_goto (tgt := 38) d_MO_split1_104 (by decide) ?_
            exact ih (m_wide := w22) (m_charAt := c23) (m_charWide := cw24) (m_trail := t25) (m_allFrom := af215) (m_allBefore := ab216) (JU := JU26) (CO := CO27) (ZN := ZN28) (ZS := ZS29) (SP := SP210) (PL := PL211) (PT := PT212) (TS := TS213) (TO := TO214) (m_pieces := (m_pieces + 1)) (FA := (zu (zu FA (2 * m_pieces) la) ((2 * m_pieces) + 1) (SP210 0))) (la := (SP210 1)) h80 h134 h135 h136 h137 h144 h138 h142 h143 h140 h141 h116 h118 h119 h120 h121 h122 h123 h124 h85 h117 h113 h146 (by omega) (by omega) (by omega) (mxA_s (by omega) (by omega)) (spK_s jal hq25 (by omega) (by omega) (fun h => by omega) (fun i a b => by rw [zu_ne (by omega), zu_ne (by omega)]) (by rw [zu_ne (by omega), zu_self]) (zu_self _ _ _)) hq17 hq18 hq19 hq20 hq21 hq22 hfr hlen hsl (by omega) hk0
          · refine ab_goto (tgt := 38) d_MO_split1_83 (by decide) ?_
            exact ih (m_wide := w22) (m_charAt := c23) (m_charWide := cw24) (m_trail := t25) (m_allFrom := af215) (m_allBefore := ab216) (JU := JU26) (CO := CO27) (ZN := ZN28) (ZS := ZS29) (SP := SP210) (PL := PL211) (PT := PT212) (TS := TS213) (TO := TO214) (m_pieces := m_pieces) (FA := FA) (la := la) h80 h134 h135 h136 h137 h144 h138 h142 h143 h140 h141 h116 h118 h119 h120 h121 h122 h123 h124 h85 h117 h113 h146 (by omega) (by omega) (by omega) (mxA_s (by omega) (by omega)) (spK_e jal hq25 (by omega) (by omega) (by first | (left; omega) | (right; omega))) hq17 hq18 hq19 hq20 hq21 hq22 hfr hlen hsl (by omega) hk0
    · cases hv
      have h134 := hfk.get h134 (by decide)
      have h116 := hfk.get h116 (by decide)
      have h118 := hfk.get h118 (by decide)
      have h119 := hfk.get h119 (by decide)
      have h120 := hfk.get h120 (by decide)
      have h121 := hfk.get h121 (by decide)
      have h122 := hfk.get h122 (by decide)
      have h123 := hfk.get h123 (by decide)
      have h124 := hfk.get h124 (by decide)
      have h85 := hfk.get h85 (by decide)
      have h117 := hfk.get h117 (by decide)
      have h113 := hfk.get h113 (by decide)
      have h146 := hfk.get h146 (by decide)
      have hfr := hfr.tr hfk (by decide)
      have hlen := hlk.trans hlen
      have hsl := hsk.trans hsl
      have h80 := hN80
      have h135 := hN135
      have h136 := hN136
      have h137 := hN137
      have h144 := hN144
      have h138 := hN138
      have h142 := hN142
      have h143 := hN143
      have h140 := hN140
      have h141 := hN141
      change ab_W _ _ _ G1 43 [some (vR 80), some (vz s), some (vz la)] [vz 0] _
      refine zz_if_eq (tgt := 107) d_MO_split1_43 (by decide) (by decide) (fun c55 => ?_) (fun c55 => absurd c55 (by decide))
      refine ab_less (L' := [some (vR 80), none, some (vz la)]) (fun i v h => by rcases i with _ | _ | _ | i <;> first | exact h | (simp at h)) ?_
      exact hk0 _ _ _ _ _ _ _ _ _ _ _ _ _ _ _ _ _ _ _ h80 h135 h136 h137 h144 h138 h142 h143 h140 h141 h146 (by first | exact hq41 | exact rgs_w hq41 (by omega)) (by first | exact hq42 | exact rgs_w hq42 (by omega)) (by first | exact hq43 | exact rgs_w hq43 (by omega)) (by first | exact hq44 | exact rgs_w hq44 (by omega)) (by first | exact hq45 | exact rgs_w hq45 (by omega)) (by first | exact hq46 | exact rgs_w hq46 (by omega)) (by omega) (by omega) (by rw [show ab240 = m_allBefore by omega]; exact jal) (by rw [show ab240 = m_allBefore by omega]; exact hq48) hfr hlen hsl
set_option maxRecDepth 100000 in
set_option maxHeartbeats 4000000 in
theorem z_MO_split1 {X : ab_X} {d : Nat} {o : Nat → Nat} {G : ab_G} {m_thrown : Int} {m_taped : Int} {m_length : Int} {m_out : Int} {m_wide : Int} {m_gathered : Int} {m_sets : Int} {m_ranges : Int} {m_nodes : Int} {m_at : Int} {m_flags : Int} {m_fault : Int} {m_place : Int} {m_numbered : Int} {m_depth : Int} {m_value : Int} {m_isNot : Int} {m_least0 : Int} {m_most0 : Int} {m_slot : Int} {m_work : Int} {m_got : Int} {m_rowMany : Int} {m_charAt : Int} {m_charWide : Int} {m_trail : Int} {m_isMatch : Int} {m_matchGroups : Int} {m_allFrom : Int} {m_allBefore : Int} {m_founds : Int} {m_pieces : Int} {m_writtenMany : Int} {m_templateWide : Int} {m_tooMuch : Int} {A_there : Int → Int} {A_groupsOf : Int → Int} {A_flagsOf : Int → Int} {A_step : Int → Int} {A_next : Int → Int} {A_more : Int → Int} {A_classAt : Int → Int} {A_classMany : Int → Int} {A_classLow : Int → Int} {A_classHigh : Int → Int} {A_subject : Int → Int} {A_stepMany : Int → Int} {A_entry : Int → Int} {CN : Int → Int} {JU : Int → Int} {CO : Int → Int} {ZN : Int → Int} {ZS : Int → Int} {SP : Int → Int} {PL : Int → Int} {PT : Int → Int} {TS : Int → Int} {TO : Int → Int} {V6 : Int → Sn} {FA : Int → Int} {s : Int} (h80 : cc o G 80 280 (ab_ob 12 (mof m_thrown m_taped m_length m_out m_wide m_gathered m_sets m_ranges m_nodes m_at m_flags m_fault m_place m_numbered m_depth m_value m_isNot m_least0 m_most0 m_slot m_work m_got m_rowMany m_charAt m_charWide m_trail m_isMatch m_matchGroups m_allFrom m_allBefore m_founds m_pieces m_writtenMany m_templateWide m_tooMuch))) (h146 : cc o G 146 346 (za 4100 FA)) (h134 : cc o G 134 334 (zl 392196 CN)) (h135 : cc o G 135 335 (zl 392196 JU)) (h136 : cc o G 136 336 (zl 392196 CO)) (h137 : cc o G 137 337 (zb 12500 ZN)) (h144 : cc o G 144 344 (zb 12500 ZS)) (h138 : cc o G 138 338 (za 20 SP)) (h142 : cc o G 142 342 (za 25000 PL)) (h143 : cc o G 143 343 (za 25000 PT)) (h140 : cc o G 140 340 (za 12500 TS)) (h141 : cc o G 141 341 (za 12500 TO)) (h112 : cc o G 112 312 (zb 6 A_there)) (h114 : cc o G 114 314 (za 6 A_groupsOf)) (h116 : cc o G 116 316 (za 6 A_flagsOf)) (h118 : cc o G 118 318 (za 75000 A_step)) (h119 : cc o G 119 319 (za 75000 A_next)) (h120 : cc o G 120 320 (za 75000 A_more)) (h121 : cc o G 121 321 (za 75000 A_classAt)) (h122 : cc o G 122 322 (za 75000 A_classMany)) (h123 : cc o G 123 323 (za 3600 A_classLow)) (h124 : cc o G 124 324 (za 3600 A_classHigh)) (h85 : cc o G 85 285 (za 2000 A_subject)) (h117 : cc o G 117 317 (za 6 A_stepMany)) (h113 : cc o G 113 313 (za 6 A_entry)) (n18 : ab_n0 = 18) (cle : 0 ≤ m_length ∧ m_length ≤ 2000) (jth : rgs A_there 6 0 1) (jpg : mpg A_there A_step A_next A_more A_classAt A_classMany A_stepMany A_entry A_groupsOf A_flagsOf) (jst : rgs A_step 75000 0 6) (jcl : rgs A_classLow 3600 0 1114111) (jch : rgs A_classHigh 3600 0 1114111) (jsb : rgs A_subject 2000 0 255) (cr : -2147483648 ≤ s ∧ s ≤ 2147483647) (cn0 : 0 ≤ m_pieces ∧ m_pieces ≤ 2050) (jpm : mpm A_there A_step A_next A_more A_classAt A_classMany A_classLow A_classHigh A_stepMany A_entry V6) (jn : rgs ZN 12500 0 1) (jse : rgs ZS 12500 0 1) (jsp : rgs SP 20 (-1) 2000) (jpt : rgs PT 25000 0 12500) (jts : rgs TS 12500 0 19) (jto : rgs TO 12500 (-1) 2000) (hd : 11 ≤ d) : ab_F X d y_MO_split1 (.code y_MO_split1 b_MO_split1 3 (some (.int))) [vR 80, vz s] G (fun oc G2 => ∃ v : Int, ∃ th2 : Int, ∃ n2 : Int, ∃ af2 : Int, ∃ ab2 : Int, ∃ w2 : Int, ∃ c2 : Int, ∃ cw2 : Int, ∃ t2 : Int, ∃ JU2 : Int → Int, ∃ CO2 : Int → Int, ∃ ZN2 : Int → Int, ∃ ZS2 : Int → Int, ∃ SP2 : Int → Int, ∃ PL2 : Int → Int, ∃ PT2 : Int → Int, ∃ TS2 : Int → Int, ∃ TO2 : Int → Int, ∃ CN2 : Int → Int, ∃ FA2 : Int → Int, oc = .returned (some (vz v)) ∧ fx o o [280, 334, 335, 336, 337, 344, 338, 342, 343, 340, 341, 346] G G2 ∧ G2.length = G.length ∧ ab_slots G2 = ab_slots G ∧ cc o G2 80 280 (ab_ob 12 (mof th2 m_taped m_length m_out w2 m_gathered m_sets m_ranges m_nodes m_at m_flags m_fault m_place m_numbered m_depth m_value m_isNot m_least0 m_most0 m_slot m_work m_got m_rowMany c2 cw2 t2 m_isMatch m_matchGroups af2 ab2 m_founds n2 m_writtenMany m_templateWide m_tooMuch)) ∧ cc o G2 135 335 (zl 392196 JU2) ∧ cc o G2 136 336 (zl 392196 CO2) ∧ cc o G2 137 337 (zb 12500 ZN2) ∧ cc o G2 144 344 (zb 12500 ZS2) ∧ cc o G2 138 338 (za 20 SP2) ∧ cc o G2 142 342 (za 25000 PL2) ∧ cc o G2 143 343 (za 25000 PT2) ∧ cc o G2 140 340 (za 12500 TS2) ∧ cc o G2 141 341 (za 12500 TO2) ∧ cc o G2 134 334 (zl 392196 CN2) ∧ cc o G2 146 346 (za 4100 FA2) ∧ (rgs ZN2 12500 0 1) ∧ (rgs ZS2 12500 0 1) ∧ (rgs SP2 20 (-1) 2000) ∧ (rgs PT2 25000 0 12500) ∧ (rgs TS2 12500 0 19) ∧ (rgs TO2 12500 (-1) 2000) ∧ (0 ≤ n2 ∧ n2 ≤ 2050) ∧ (spX A_there A_flagsOf V6 A_subject m_length s v th2 m_pieces FA n2 FA2)) := by
  refine ab_F_of (by decide +kernel) (Nat.le_of_ble_eq_true rfl) ?_
  obtain ⟨Q, hQ⟩ : ∃ z : Outcome → ab_G → Prop, z = (fun oc G2 => ∃ v : Int, ∃ th2 : Int, ∃ n2 : Int, ∃ af2 : Int, ∃ ab2 : Int, ∃ w2 : Int, ∃ c2 : Int, ∃ cw2 : Int, ∃ t2 : Int, ∃ JU2 : Int → Int, ∃ CO2 : Int → Int, ∃ ZN2 : Int → Int, ∃ ZS2 : Int → Int, ∃ SP2 : Int → Int, ∃ PL2 : Int → Int, ∃ PT2 : Int → Int, ∃ TS2 : Int → Int, ∃ TO2 : Int → Int, ∃ CN2 : Int → Int, ∃ FA2 : Int → Int, oc = .returned (some (vz v)) ∧ fx o o [280, 334, 335, 336, 337, 344, 338, 342, 343, 340, 341, 346] G G2 ∧ G2.length = G.length ∧ ab_slots G2 = ab_slots G ∧ cc o G2 80 280 (ab_ob 12 (mof th2 m_taped m_length m_out w2 m_gathered m_sets m_ranges m_nodes m_at m_flags m_fault m_place m_numbered m_depth m_value m_isNot m_least0 m_most0 m_slot m_work m_got m_rowMany c2 cw2 t2 m_isMatch m_matchGroups af2 ab2 m_founds n2 m_writtenMany m_templateWide m_tooMuch)) ∧ cc o G2 135 335 (zl 392196 JU2) ∧ cc o G2 136 336 (zl 392196 CO2) ∧ cc o G2 137 337 (zb 12500 ZN2) ∧ cc o G2 144 344 (zb 12500 ZS2) ∧ cc o G2 138 338 (za 20 SP2) ∧ cc o G2 142 342 (za 25000 PL2) ∧ cc o G2 143 343 (za 25000 PT2) ∧ cc o G2 140 340 (za 12500 TS2) ∧ cc o G2 141 341 (za 12500 TO2) ∧ cc o G2 134 334 (zl 392196 CN2) ∧ cc o G2 146 346 (za 4100 FA2) ∧ (rgs ZN2 12500 0 1) ∧ (rgs ZS2 12500 0 1) ∧ (rgs SP2 20 (-1) 2000) ∧ (rgs PT2 25000 0 12500) ∧ (rgs TS2 12500 0 19) ∧ (rgs TO2 12500 (-1) 2000) ∧ (0 ≤ n2 ∧ n2 ≤ 2050) ∧ (spX A_there A_flagsOf V6 A_subject m_length s v th2 m_pieces FA n2 FA2)) := ⟨_, rfl⟩
  rw [← hQ]
  change ab_W X (ab_pl y_MO_split1 b_MO_split1 3 (some (.int))) d G 0 [some (vR 80), some (vz s), none] [] Q
  have hfr : fx o o [280, 334, 335, 336, 337, 344, 338, 342, 343, 340, 341, 346] G G := fx.rf
  have hlen : G.length = G.length := rfl
  have hsl : ab_slots G = ab_slots G := rfl
  refine ab_aload_n d_MO_split1_0 rfl ?_
  refine ab_aload_n d_MO_split1_1 rfl ?_
  refine ab_iload_n d_MO_split1_2 rfl ?_
  refine ab_callV (d' := d - 1) (as := [vz s]) (st := [vR 80]) (r := _) (x_MO_isThere (o := o) (m_thrown := m_thrown) (m_taped := m_taped) (m_length := m_length) (m_out := m_out) (m_wide := m_wide) (m_gathered := m_gathered) (m_sets := m_sets) (m_ranges := m_ranges) (m_nodes := m_nodes) (m_at := m_at) (m_flags := m_flags) (m_fault := m_fault) (m_place := m_place) (m_numbered := m_numbered) (m_depth := m_depth) (m_value := m_value) (m_isNot := m_isNot) (m_least0 := m_least0) (m_most0 := m_most0) (m_slot := m_slot) (m_work := m_work) (m_got := m_got) (m_rowMany := m_rowMany) (m_charAt := m_charAt) (m_charWide := m_charWide) (m_trail := m_trail) (m_isMatch := m_isMatch) (m_matchGroups := m_matchGroups) (m_allFrom := m_allFrom) (m_allBefore := m_allBefore) (m_founds := m_founds) (m_pieces := m_pieces) (m_writtenMany := m_writtenMany) (m_templateWide := m_templateWide) (m_tooMuch := m_tooMuch) (A_there := A_there) (x := s) h80 h112 (by omega) jth) (fun oc G2 h => by rcases h with ⟨_, h, _⟩ <;> exact ⟨_, h⟩) (by omega) m_MO_isThere ml_MO_507 im_MO_isThere se_MO_isThere c_MO h80.2.2 (Nat.le_of_ble_eq_true rfl) d_MO_split1_3 rfl ?_
  intro v G1 hq
  rcases hq with ⟨v2, hv, hGe, hq3, hq4, hq5⟩
  cases hv
  rw [hGe]
  change ab_W _ _ _ G 6 [some (vR 80), some (vz s), none] [vz v2, vR 80] _
  refine zz_if_eq (tgt := 13) d_MO_split1_6 (by decide) (by omega) (fun c6 => ?_) (fun c6 => ?_)
  · refine zz_iconst d_MO_split1_13 ?_
    refine ab_putf (fs := mof m_thrown m_taped m_length m_out m_wide m_gathered m_sets m_ranges m_nodes m_at m_flags m_fault m_place m_numbered m_depth m_value m_isNot m_least0 m_most0 m_slot m_work m_got m_rowMany m_charAt m_charWide m_trail m_isMatch m_matchGroups m_allFrom m_allBefore m_founds m_pieces m_writtenMany m_templateWide m_tooMuch) f_MO_220 (Or.inl rfl) d_MO_split1_14 h80.2.2 (Nat.le_of_ble_eq_true rfl) (fun _ => ⟨rfl, rfl⟩) (h80.2.1 (by decide)) ?_
    obtain ⟨G7, eG7⟩ : ∃ z : ab_G, z = List.set G 80 (ab_ob 12 (mof 1 m_taped m_length m_out m_wide m_gathered m_sets m_ranges m_nodes m_at m_flags m_fault m_place m_numbered m_depth m_value m_isNot m_least0 m_most0 m_slot m_work m_got m_rowMany m_charAt m_charWide m_trail m_isMatch m_matchGroups m_allFrom m_allBefore m_founds m_pieces m_writtenMany m_templateWide m_tooMuch)) := ⟨_, rfl⟩
    have h146 := h146.keep h80 eG7 (by decide)
    have h134 := h134.keep h80 eG7 (by decide)
    have h135 := h135.keep h80 eG7 (by decide)
    have h136 := h136.keep h80 eG7 (by decide)
    have h137 := h137.keep h80 eG7 (by decide)
    have h144 := h144.keep h80 eG7 (by decide)
    have h138 := h138.keep h80 eG7 (by decide)
    have h142 := h142.keep h80 eG7 (by decide)
    have h143 := h143.keep h80 eG7 (by decide)
    have h140 := h140.keep h80 eG7 (by decide)
    have h141 := h141.keep h80 eG7 (by decide)
    have h112 := h112.keep h80 eG7 (by decide)
    have h114 := h114.keep h80 eG7 (by decide)
    have h116 := h116.keep h80 eG7 (by decide)
    have h118 := h118.keep h80 eG7 (by decide)
    have h119 := h119.keep h80 eG7 (by decide)
    have h120 := h120.keep h80 eG7 (by decide)
    have h121 := h121.keep h80 eG7 (by decide)
    have h122 := h122.keep h80 eG7 (by decide)
    have h123 := h123.keep h80 eG7 (by decide)
    have h124 := h124.keep h80 eG7 (by decide)
    have h85 := h85.keep h80 eG7 (by decide)
    have h117 := h117.keep h80 eG7 (by decide)
    have h113 := h113.keep h80 eG7 (by decide)
    have hlen := (z_len eG7).trans hlen
    have hsl := (z_sl h80 eG7 rfl).trans hsl
    have hfr := hfr.wr h80 eG7 (by decide)
    have h80 := h80.kept eG7
    change ab_W _ _ _ (List.set G 80 (ab_ob 12 (mof 1 m_taped m_length m_out m_wide m_gathered m_sets m_ranges m_nodes m_at m_flags m_fault m_place m_numbered m_depth m_value m_isNot m_least0 m_most0 m_slot m_work m_got m_rowMany m_charAt m_charWide m_trail m_isMatch m_matchGroups m_allFrom m_allBefore m_founds m_pieces m_writtenMany m_templateWide m_tooMuch))) 17 [some (vR 80), some (vz s), none] [] _
    rw [← eG7]
    refine ab_aload_n d_MO_split1_17 rfl ?_
    refine ab_getf (fs := mof 1 m_taped m_length m_out m_wide m_gathered m_sets m_ranges m_nodes m_at m_flags m_fault m_place m_numbered m_depth m_value m_isNot m_least0 m_most0 m_slot m_work m_got m_rowMany m_charAt m_charWide m_trail m_isMatch m_matchGroups m_allFrom m_allBefore m_founds m_pieces m_writtenMany m_templateWide m_tooMuch) f_MO_220 d_MO_split1_18 h80.2.2 rfl ?_
    refine zz_if_le (tgt := 26) d_MO_split1_21 (by decide) (by decide) (fun c8 => absurd c8 (by decide)) (fun c8 => ?_)
    refine zz_iconst d_MO_split1_24 ?_
    refine zz_iret rfl d_MO_split1_25 ?_
    rw [hQ]; exact ⟨_, _, _, _, _, _, _, _, _, _, _, _, _, _, _, _, _, _, _, _, rfl, hfr, hlen, hsl, h80, h135, h136, h137, h144, h138, h142, h143, h140, h141, h134, h146, (by first | exact jn | exact rgs_w jn (by omega)), (by first | exact jse | exact rgs_w jse (by omega)), (by first | exact jsp | exact rgs_w jsp (by omega)), (by first | exact jpt | exact rgs_w jpt (by omega)), (by first | exact jts | exact rgs_w jts (by omega)), (by first | exact jto | exact rgs_w jto (by omega)), (by omega), (by exact Or.inr ⟨rfl, hq5 (by omega), rfl, rfl, rfl⟩)⟩
  · refine zz_iconst d_MO_split1_9 ?_
    refine ab_goto (tgt := 14) d_MO_split1_10 (by decide) ?_
    refine ab_putf (fs := mof m_thrown m_taped m_length m_out m_wide m_gathered m_sets m_ranges m_nodes m_at m_flags m_fault m_place m_numbered m_depth m_value m_isNot m_least0 m_most0 m_slot m_work m_got m_rowMany m_charAt m_charWide m_trail m_isMatch m_matchGroups m_allFrom m_allBefore m_founds m_pieces m_writtenMany m_templateWide m_tooMuch) f_MO_220 (Or.inl rfl) d_MO_split1_14 h80.2.2 (Nat.le_of_ble_eq_true rfl) (fun _ => ⟨rfl, rfl⟩) (h80.2.1 (by decide)) ?_
    obtain ⟨G9, eG9⟩ : ∃ z : ab_G, z = List.set G 80 (ab_ob 12 (mof 0 m_taped m_length m_out m_wide m_gathered m_sets m_ranges m_nodes m_at m_flags m_fault m_place m_numbered m_depth m_value m_isNot m_least0 m_most0 m_slot m_work m_got m_rowMany m_charAt m_charWide m_trail m_isMatch m_matchGroups m_allFrom m_allBefore m_founds m_pieces m_writtenMany m_templateWide m_tooMuch)) := ⟨_, rfl⟩
    have h146 := h146.keep h80 eG9 (by decide)
    have h134 := h134.keep h80 eG9 (by decide)
    have h135 := h135.keep h80 eG9 (by decide)
    have h136 := h136.keep h80 eG9 (by decide)
    have h137 := h137.keep h80 eG9 (by decide)
    have h144 := h144.keep h80 eG9 (by decide)
    have h138 := h138.keep h80 eG9 (by decide)
    have h142 := h142.keep h80 eG9 (by decide)
    have h143 := h143.keep h80 eG9 (by decide)
    have h140 := h140.keep h80 eG9 (by decide)
    have h141 := h141.keep h80 eG9 (by decide)
    have h112 := h112.keep h80 eG9 (by decide)
    have h114 := h114.keep h80 eG9 (by decide)
    have h116 := h116.keep h80 eG9 (by decide)
    have h118 := h118.keep h80 eG9 (by decide)
    have h119 := h119.keep h80 eG9 (by decide)
    have h120 := h120.keep h80 eG9 (by decide)
    have h121 := h121.keep h80 eG9 (by decide)
    have h122 := h122.keep h80 eG9 (by decide)
    have h123 := h123.keep h80 eG9 (by decide)
    have h124 := h124.keep h80 eG9 (by decide)
    have h85 := h85.keep h80 eG9 (by decide)
    have h117 := h117.keep h80 eG9 (by decide)
    have h113 := h113.keep h80 eG9 (by decide)
    have hlen := (z_len eG9).trans hlen
    have hsl := (z_sl h80 eG9 rfl).trans hsl
    have hfr := hfr.wr h80 eG9 (by decide)
    have h80 := h80.kept eG9
    change ab_W _ _ _ (List.set G 80 (ab_ob 12 (mof 0 m_taped m_length m_out m_wide m_gathered m_sets m_ranges m_nodes m_at m_flags m_fault m_place m_numbered m_depth m_value m_isNot m_least0 m_most0 m_slot m_work m_got m_rowMany m_charAt m_charWide m_trail m_isMatch m_matchGroups m_allFrom m_allBefore m_founds m_pieces m_writtenMany m_templateWide m_tooMuch))) 17 [some (vR 80), some (vz s), none] [] _
    rw [← eG9]
    refine ab_aload_n d_MO_split1_17 rfl ?_
    refine ab_getf (fs := mof 0 m_taped m_length m_out m_wide m_gathered m_sets m_ranges m_nodes m_at m_flags m_fault m_place m_numbered m_depth m_value m_isNot m_least0 m_most0 m_slot m_work m_got m_rowMany m_charAt m_charWide m_trail m_isMatch m_matchGroups m_allFrom m_allBefore m_founds m_pieces m_writtenMany m_templateWide m_tooMuch) f_MO_220 d_MO_split1_18 h80.2.2 rfl ?_
    refine zz_if_le (tgt := 26) d_MO_split1_21 (by decide) (by decide) (fun c10 => ?_) (fun c10 => absurd c10 (by decide))
    obtain ⟨hp1_, hp2_, hp3_, hp4_, hp5_⟩ := jpg s (by omega) (by omega) (hq4 (by omega)).2.2
    have hp6_ := jpm s (by omega) (by omega) (hq4 (by omega)).2.2
    refine ab_aload_n d_MO_split1_26 rfl ?_
    refine zz_iconst d_MO_split1_27 ?_
    refine ab_putf (fs := mof 0 m_taped m_length m_out m_wide m_gathered m_sets m_ranges m_nodes m_at m_flags m_fault m_place m_numbered m_depth m_value m_isNot m_least0 m_most0 m_slot m_work m_got m_rowMany m_charAt m_charWide m_trail m_isMatch m_matchGroups m_allFrom m_allBefore m_founds m_pieces m_writtenMany m_templateWide m_tooMuch) f_MO_588 (Or.inl rfl) d_MO_split1_28 h80.2.2 (Nat.le_of_ble_eq_true rfl) (fun _ => ⟨rfl, rfl⟩) (h80.2.1 (by decide)) ?_
    obtain ⟨G11, eG11⟩ : ∃ z : ab_G, z = List.set G9 80 (ab_ob 12 (mof 0 m_taped m_length m_out m_wide m_gathered m_sets m_ranges m_nodes m_at m_flags m_fault m_place m_numbered m_depth m_value m_isNot m_least0 m_most0 m_slot m_work m_got m_rowMany m_charAt m_charWide m_trail m_isMatch m_matchGroups m_allFrom m_allBefore m_founds 0 m_writtenMany m_templateWide m_tooMuch)) := ⟨_, rfl⟩
    have h146 := h146.keep h80 eG11 (by decide)
    have h134 := h134.keep h80 eG11 (by decide)
    have h135 := h135.keep h80 eG11 (by decide)
    have h136 := h136.keep h80 eG11 (by decide)
    have h137 := h137.keep h80 eG11 (by decide)
    have h144 := h144.keep h80 eG11 (by decide)
    have h138 := h138.keep h80 eG11 (by decide)
    have h142 := h142.keep h80 eG11 (by decide)
    have h143 := h143.keep h80 eG11 (by decide)
    have h140 := h140.keep h80 eG11 (by decide)
    have h141 := h141.keep h80 eG11 (by decide)
    have h112 := h112.keep h80 eG11 (by decide)
    have h114 := h114.keep h80 eG11 (by decide)
    have h116 := h116.keep h80 eG11 (by decide)
    have h118 := h118.keep h80 eG11 (by decide)
    have h119 := h119.keep h80 eG11 (by decide)
    have h120 := h120.keep h80 eG11 (by decide)
    have h121 := h121.keep h80 eG11 (by decide)
    have h122 := h122.keep h80 eG11 (by decide)
    have h123 := h123.keep h80 eG11 (by decide)
    have h124 := h124.keep h80 eG11 (by decide)
    have h85 := h85.keep h80 eG11 (by decide)
    have h117 := h117.keep h80 eG11 (by decide)
    have h113 := h113.keep h80 eG11 (by decide)
    have hlen := (z_len eG11).trans hlen
    have hsl := (z_sl h80 eG11 rfl).trans hsl
    have hfr := hfr.wr h80 eG11 (by decide)
    have h80 := h80.kept eG11
    change ab_W _ _ _ (List.set G9 80 (ab_ob 12 (mof 0 m_taped m_length m_out m_wide m_gathered m_sets m_ranges m_nodes m_at m_flags m_fault m_place m_numbered m_depth m_value m_isNot m_least0 m_most0 m_slot m_work m_got m_rowMany m_charAt m_charWide m_trail m_isMatch m_matchGroups m_allFrom m_allBefore m_founds 0 m_writtenMany m_templateWide m_tooMuch))) 31 [some (vR 80), some (vz s), none] [] _
    rw [← eG11]
    refine zz_iconst d_MO_split1_31 ?_
    refine ab_istore_n d_MO_split1_32 (Nat.le_of_ble_eq_true rfl) (Nat.le_of_ble_eq_true rfl) rfl ?_
    change ab_W _ _ _ G11 33 [some (vR 80), some (vz s), some (vz 0)] [] _
    refine ab_aload_n d_MO_split1_33 rfl ?_
    refine ab_iload_n d_MO_split1_34 rfl ?_
    refine ab_callV (d' := d - 1) (as := [vz s]) (st := []) (r := _) (z_MO_beginAll (o := o) (m_thrown := 0) (m_taped := m_taped) (m_length := m_length) (m_out := m_out) (m_wide := m_wide) (m_gathered := m_gathered) (m_sets := m_sets) (m_ranges := m_ranges) (m_nodes := m_nodes) (m_at := m_at) (m_flags := m_flags) (m_fault := m_fault) (m_place := m_place) (m_numbered := m_numbered) (m_depth := m_depth) (m_value := m_value) (m_isNot := m_isNot) (m_least0 := m_least0) (m_most0 := m_most0) (m_slot := m_slot) (m_work := m_work) (m_got := m_got) (m_rowMany := m_rowMany) (m_charAt := m_charAt) (m_charWide := m_charWide) (m_trail := m_trail) (m_isMatch := m_isMatch) (m_matchGroups := m_matchGroups) (m_allFrom := m_allFrom) (m_allBefore := m_allBefore) (m_founds := m_founds) (m_pieces := 0) (m_writtenMany := m_writtenMany) (m_templateWide := m_templateWide) (m_tooMuch := m_tooMuch) (A_step := A_step) (A_next := A_next) (A_more := A_more) (A_classAt := A_classAt) (A_classMany := A_classMany) (A_classLow := A_classLow) (A_classHigh := A_classHigh) (A_subject := A_subject) (A_stepMany := A_stepMany) (A_entry := A_entry) (CN := CN) (ZN := ZN) (s := s) h80 h134 h137 h118 h119 h120 h121 h122 h123 h124 h85 h117 h113 (by omega) (by omega) (by omega) hp5_ jst jcl jch jsb jn (by omega)) (fun oc G2 h => by rcases h with ⟨_, _, _, _, _, h, _⟩ <;> exact ⟨_, h⟩) (by omega) m_MO_beginAll ml_MO_582 im_MO_beginAll se_MO_beginAll c_MO h80.2.2 (Nat.le_of_ble_eq_true rfl) d_MO_split1_35 rfl ?_
    intro v G12 hq
    rcases hq with ⟨w213, c214, cw215, CN216, ZN217, hv, hfk, hlk, hsk, hN80, hN134, hN137, hq18, hq19, hq20⟩
    cases hv
    have h146 := hfk.get h146 (by decide)
    have h135 := hfk.get h135 (by decide)
    have h136 := hfk.get h136 (by decide)
    have h144 := hfk.get h144 (by decide)
    have h138 := hfk.get h138 (by decide)
    have h142 := hfk.get h142 (by decide)
    have h143 := hfk.get h143 (by decide)
    have h140 := hfk.get h140 (by decide)
    have h141 := hfk.get h141 (by decide)
    have h112 := hfk.get h112 (by decide)
    have h114 := hfk.get h114 (by decide)
    have h116 := hfk.get h116 (by decide)
    have h118 := hfk.get h118 (by decide)
    have h119 := hfk.get h119 (by decide)
    have h120 := hfk.get h120 (by decide)
    have h121 := hfk.get h121 (by decide)
    have h122 := hfk.get h122 (by decide)
    have h123 := hfk.get h123 (by decide)
    have h124 := hfk.get h124 (by decide)
    have h85 := hfk.get h85 (by decide)
    have h117 := hfk.get h117 (by decide)
    have h113 := hfk.get h113 (by decide)
    have hfr := hfr.tr hfk (by decide)
    have hlen := hlk.trans hlen
    have hsl := hsk.trans hsl
    have h80 := hN80
    have h134 := hN134
    have h137 := hN137
    change ab_W _ _ _ G12 38 [some (vR 80), some (vz s), some (vz 0)] [] _
    refine y_MO_split1_38 (m_thrown := 0) (m_taped := m_taped) (m_length := m_length) (m_out := m_out) (m_gathered := m_gathered) (m_sets := m_sets) (m_ranges := m_ranges) (m_nodes := m_nodes) (m_at := m_at) (m_flags := m_flags) (m_fault := m_fault) (m_place := m_place) (m_numbered := m_numbered) (m_depth := m_depth) (m_value := m_value) (m_isNot := m_isNot) (m_least0 := m_least0) (m_most0 := m_most0) (m_slot := m_slot) (m_work := m_work) (m_got := m_got) (m_rowMany := m_rowMany) (m_isMatch := m_isMatch) (m_matchGroups := m_matchGroups) (m_founds := m_founds) (m_writtenMany := m_writtenMany) (m_templateWide := m_templateWide) (m_tooMuch := m_tooMuch) (A_flagsOf := A_flagsOf) (A_step := A_step) (A_next := A_next) (A_more := A_more) (A_classAt := A_classAt) (A_classMany := A_classMany) (A_classLow := A_classLow) (A_classHigh := A_classHigh) (A_subject := A_subject) (A_stepMany := A_stepMany) (A_entry := A_entry) (CN := CN216) (v9 := (V6 s)) (s := s) (G0 := G12) (m_wide := w213) (m_charAt := c214) (m_charWide := cw215) (m_trail := m_trail) (m_allFrom := 0) (m_allBefore := (-1)) (JU := JU) (CO := CO) (ZN := ZN217) (ZS := ZS) (SP := SP) (PL := PL) (PT := PT) (TS := TS) (TO := TO) (m_pieces := 0) (FA := FA) (la := 0) (by omega) (by omega) (by omega) hp5_ jst jcl jch jsb (by omega) (by omega) hq19 hq20 hp6_ (by omega) (Int.toNat (m_length + 1 - (-1)) + 1) h80 h134 h135 h136 h137 h144 h138 h142 h143 h140 h141 h116 h118 h119 h120 h121 h122 h123 h124 h85 h117 h113 h146 (by omega) (by omega) (by omega) mxA_0 spK_0 hq18 jse jsp jpt jts jto fx.rf rfl rfl (by omega) (fun G21 w222 c223 cw224 t225 JU226 CO227 ZN228 ZS229 SP230 PL231 PT232 TS233 TO234 af235 ab236 FA237 n238 la239 hN80 hN135 hN136 hN137 hN144 hN138 hN142 hN143 hN140 hN141 hN146 hq40 hq41 hq42 hq43 hq44 hq45 hq46 hq47 hq48 hq49 hfk hlk hsk => ?_)
    · have h134 := hfk.get h134 (by decide)
      have h112 := hfk.get h112 (by decide)
      have h114 := hfk.get h114 (by decide)
      have h116 := hfk.get h116 (by decide)
      have h118 := hfk.get h118 (by decide)
      have h119 := hfk.get h119 (by decide)
      have h120 := hfk.get h120 (by decide)
      have h121 := hfk.get h121 (by decide)
      have h122 := hfk.get h122 (by decide)
      have h123 := hfk.get h123 (by decide)
      have h124 := hfk.get h124 (by decide)
      have h85 := hfk.get h85 (by decide)
      have h117 := hfk.get h117 (by decide)
      have h113 := hfk.get h113 (by decide)
      have hfr := hfr.tr hfk (by decide)
      have hlen := hlk.trans hlen
      have hsl := hsk.trans hsl
      have h80 := hN80
      have h135 := hN135
      have h136 := hN136
      have h137 := hN137
      have h144 := hN144
      have h138 := hN138
      have h142 := hN142
      have h143 := hN143
      have h140 := hN140
      have h141 := hN141
      have h146 := hN146
      change ab_W _ _ _ G21 107 [some (vR 80), none, some (vz la239)] [] _
      refine ab_aload_n d_MO_split1_107 rfl ?_
      refine ab_iload_n d_MO_split1_108 rfl ?_
      refine ab_aload_n d_MO_split1_109 rfl ?_
      refine ab_getf (fs := mof 0 m_taped m_length m_out w222 m_gathered m_sets m_ranges m_nodes m_at m_flags m_fault m_place m_numbered m_depth m_value m_isNot m_least0 m_most0 m_slot m_work m_got m_rowMany c223 cw224 t225 m_isMatch m_matchGroups af235 ab236 m_founds n238 m_writtenMany m_templateWide m_tooMuch) f_MO_510 d_MO_split1_110 h80.2.2 rfl ?_
      refine ab_callV (d' := d - 1) (as := [vz la239, vz m_length]) (st := []) (r := _) (z_MO_addPiece (o := o) (m_thrown := 0) (m_taped := m_taped) (m_length := m_length) (m_out := m_out) (m_wide := w222) (m_gathered := m_gathered) (m_sets := m_sets) (m_ranges := m_ranges) (m_nodes := m_nodes) (m_at := m_at) (m_flags := m_flags) (m_fault := m_fault) (m_place := m_place) (m_numbered := m_numbered) (m_depth := m_depth) (m_value := m_value) (m_isNot := m_isNot) (m_least0 := m_least0) (m_most0 := m_most0) (m_slot := m_slot) (m_work := m_work) (m_got := m_got) (m_rowMany := m_rowMany) (m_charAt := c223) (m_charWide := cw224) (m_trail := t225) (m_isMatch := m_isMatch) (m_matchGroups := m_matchGroups) (m_allFrom := af235) (m_allBefore := ab236) (m_founds := m_founds) (m_pieces := n238) (m_writtenMany := m_writtenMany) (m_templateWide := m_templateWide) (m_tooMuch := m_tooMuch) (FA := FA237) (x := la239) (y := m_length) h80 h146 (by omega) (by omega)) (fun oc G2 h => by rcases h with ⟨h, _⟩ <;> exact ⟨_, h⟩) (by omega) m_MO_addPiece ml_MO_591 im_MO_addPiece se_MO_addPiece c_MO h80.2.2 (Nat.le_of_ble_eq_true rfl) d_MO_split1_113 rfl ?_
      intro v G50 hq
      rcases hq with ⟨hv, hfk, hlk, hsk, hN80, hN146⟩
      cases hv
      have h134 := hfk.get h134 (by decide)
      have h135 := hfk.get h135 (by decide)
      have h136 := hfk.get h136 (by decide)
      have h137 := hfk.get h137 (by decide)
      have h144 := hfk.get h144 (by decide)
      have h138 := hfk.get h138 (by decide)
      have h142 := hfk.get h142 (by decide)
      have h143 := hfk.get h143 (by decide)
      have h140 := hfk.get h140 (by decide)
      have h141 := hfk.get h141 (by decide)
      have h112 := hfk.get h112 (by decide)
      have h114 := hfk.get h114 (by decide)
      have h116 := hfk.get h116 (by decide)
      have h118 := hfk.get h118 (by decide)
      have h119 := hfk.get h119 (by decide)
      have h120 := hfk.get h120 (by decide)
      have h121 := hfk.get h121 (by decide)
      have h122 := hfk.get h122 (by decide)
      have h123 := hfk.get h123 (by decide)
      have h124 := hfk.get h124 (by decide)
      have h85 := hfk.get h85 (by decide)
      have h117 := hfk.get h117 (by decide)
      have h113 := hfk.get h113 (by decide)
      have hfr := hfr.tr hfk (by decide)
      have hlen := hlk.trans hlen
      have hsl := hsk.trans hsl
      have h80 := hN80
      have h146 := hN146
      change ab_W _ _ _ G50 116 [some (vR 80), none, some (vz la239)] [] _
      refine ab_aload_n d_MO_split1_116 rfl ?_
      refine ab_getf (fs := mof 0 m_taped m_length m_out w222 m_gathered m_sets m_ranges m_nodes m_at m_flags m_fault m_place m_numbered m_depth m_value m_isNot m_least0 m_most0 m_slot m_work m_got m_rowMany c223 cw224 t225 m_isMatch m_matchGroups af235 ab236 m_founds (n238 + 1) m_writtenMany m_templateWide m_tooMuch) f_MO_588 d_MO_split1_117 h80.2.2 rfl ?_
      refine zz_iret rfl d_MO_split1_120 ?_
      rw [hQ]; exact ⟨_, _, _, _, _, _, _, _, _, _, _, _, _, _, _, _, _, _, _, _, rfl, hfr, hlen, hsl, h80, h135, h136, h137, h144, h138, h142, h143, h140, h141, h134, h146, (by first | exact hq40 | exact rgs_w hq40 (by omega)), (by first | exact hq41 | exact rgs_w hq41 (by omega)), (by first | exact hq42 | exact rgs_w hq42 (by omega)), (by first | exact hq43 | exact rgs_w hq43 (by omega)), (by first | exact hq44 | exact rgs_w hq44 (by omega)), (by first | exact hq45 | exact rgs_w hq45 (by omega)), (by omega), (by exact Or.inl ⟨rfl, (hq4 (by omega)), rfl, spC_of hq48 hq49 (fun i a b => by rw [zu_ne (by omega), zu_ne (by omega)]) (by rw [zu_ne (by omega), zu_self]) (zu_self _ _ _)⟩)⟩
