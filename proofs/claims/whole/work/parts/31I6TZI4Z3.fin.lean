set_option maxRecDepth 100000 in
set_option maxHeartbeats 4000000 in
theorem y_MO_find_3 {X : ab_X} {d : Nat} {Q : Outcome → ab_G → Prop} {o : Nat → Nat} {G0 : ab_G} {m_thrown : Int} {m_taped : Int} {m_length : Int} {m_out : Int} {m_wide : Int} {m_gathered : Int} {m_sets : Int} {m_ranges : Int} {m_nodes : Int} {m_at : Int} {m_flags : Int} {m_fault : Int} {m_place : Int} {m_numbered : Int} {m_depth : Int} {m_value : Int} {m_isNot : Int} {m_least0 : Int} {m_most0 : Int} {m_slot : Int} {m_work : Int} {m_got : Int} {m_rowMany : Int} {m_charAt : Int} {m_charWide : Int} {m_trail : Int} {m_isMatch : Int} {m_matchGroups : Int} {m_allFrom : Int} {m_allBefore : Int} {m_founds : Int} {m_pieces : Int} {m_writtenMany : Int} {m_templateWide : Int} {m_tooMuch : Int} {A_flagsOf : Int → Int} {A_step : Int → Int} {A_next : Int → Int} {A_more : Int → Int} {A_classAt : Int → Int} {A_classMany : Int → Int} {A_classLow : Int → Int} {A_classHigh : Int → Int} {A_subject : Int → Int} {A_stepMany : Int → Int} {A_entry : Int → Int} {CN : Int → Int} {s : Int} {fm : Int} {sr : Int} {to : Int} {v9 : Sn} {hw9 : Int} (cle : 0 ≤ m_length ∧ m_length ≤ 2000) (jsb : rgs A_subject 2000 0 255) (cen : 0 ≤ (A_entry s) ∧ (A_entry s) < (A_stepMany s)) (hnt : ntK A_step A_next A_more A_classAt A_classMany A_classLow A_classHigh A_subject CN m_length (12500 * s) (A_stepMany s) m_length 0 to) (jps : prZ A_step A_next A_more A_classAt A_classMany A_classLow A_classHigh s (A_stepMany s) (A_entry s) v9) (csr : 0 ≤ sr ∧ sr ≤ 1 ∧ 0 ≤ fm ∧ 0 ≤ s ∧ s ≤ 5 ∧ A_entry s < 12500 ∧ 0 ≤ to ∧ to ≤ fm ∧ hw9 + sr = 1) (hd : 1 ≤ d) : ∀ (mz : Nat) {G : ab_G} {p : Int}, (cc o G 80 280 (ab_ob 12 (mof m_thrown m_taped m_length m_out m_wide m_gathered m_sets m_ranges m_nodes m_at m_flags m_fault m_place m_numbered m_depth m_value m_isNot m_least0 m_most0 m_slot m_work m_got m_rowMany m_charAt m_charWide m_trail m_isMatch m_matchGroups m_allFrom m_allBefore m_founds m_pieces m_writtenMany m_templateWide m_tooMuch))) → (cc o G 134 334 (zl 392196 CN)) → (cc o G 113 313 (za 6 A_entry)) → (fm ≤ p ∧ p ≤ m_length ∧ p ≤ fm + 2000 * sr) → (noR (wyR v9 A_subject m_length) (1 - A_flagsOf s / 16) hw9 m_length fm p) → (fx o o [] G0 G) → (G.length = G0.length) → (ab_slots G = ab_slots G0) → (Int.toNat (m_length - p) < mz) → (∀ (G2 : ab_G) (p2 : Int), (fm ≤ p2 ∧ p2 ≤ m_length ∧ p2 ≤ fm + 2000 * sr) → (noR (wyR v9 A_subject m_length) (1 - A_flagsOf s / 16) hw9 m_length fm p2) → (lpE sr p2 m_length (nbit CN p2 (A_entry s))) → (fx o o [] G0 G2) → (G2.length = G0.length) → (ab_slots G2 = ab_slots G0) → ab_W X (ab_pl y_MO_find b_MO_find 6 (some (.boolean))) d G2 40 [some (vR 80), some (vz s), none, none, some (vz p2), none] [] Q) → ab_W X (ab_pl y_MO_find b_MO_find 6 (some (.boolean))) d G 3 [some (vR 80), some (vz s), some (vz fm), some (vz sr), some (vz p), none] [] Q := by
  intro mz
  induction mz with
  | zero => intro G p h80 h134 h113 ci jno hfr hlen hsl hm hk0; exact absurd hm (Nat.not_lt_zero _)
  | succ mz ih =>
    intro G p h80 h134 h113 ci jno hfr hlen hsl hm hk0
    refine ab_iload_n d_MO_find_3 rfl ?_
    refine zz_if_eq (tgt := 40) d_MO_find_4 (by decide) (by omega) (fun c1 => ?_) (fun c1 => ?_)
    · refine ab_less (L' := [some (vR 80), some (vz s), none, none, some (vz p), none]) (fun i v h => by rcases i with _ | _ | _ | _ | _ | _ | i <;> first | exact h | (simp at h)) ?_
      exact hk0 _ _ (by omega) (by exact jno) (by intro h_; first | (exfalso; omega) | (left; omega)) hfr hlen hsl
    · refine ab_iload d_MO_find_7 rfl ?_
      refine ab_aload_n d_MO_find_9 rfl ?_
      refine ab_getf (fs := mof m_thrown m_taped m_length m_out m_wide m_gathered m_sets m_ranges m_nodes m_at m_flags m_fault m_place m_numbered m_depth m_value m_isNot m_least0 m_most0 m_slot m_work m_got m_rowMany m_charAt m_charWide m_trail m_isMatch m_matchGroups m_allFrom m_allBefore m_founds m_pieces m_writtenMany m_templateWide m_tooMuch) f_MO_510 d_MO_find_10 h80.2.2 rfl ?_
      refine zz_icmp_ge (tgt := 40) d_MO_find_13 (by decide) (by omega) (by omega) (fun c2 => ?_) (fun c2 => ?_)
      · refine ab_less (L' := [some (vR 80), some (vz s), none, none, some (vz p), none]) (fun i v h => by rcases i with _ | _ | _ | _ | _ | _ | i <;> first | exact h | (simp at h)) ?_
        exact hk0 _ _ (by omega) (by exact jno) (by intro h_; first | (exfalso; omega) | (left; omega)) hfr hlen hsl
      · refine ab_aload_n d_MO_find_16 rfl ?_
        refine ab_getf (fs := mof m_thrown m_taped m_length m_out m_wide m_gathered m_sets m_ranges m_nodes m_at m_flags m_fault m_place m_numbered m_depth m_value m_isNot m_least0 m_most0 m_slot m_work m_got m_rowMany m_charAt m_charWide m_trail m_isMatch m_matchGroups m_allFrom m_allBefore m_founds m_pieces m_writtenMany m_templateWide m_tooMuch) f_MO_178 d_MO_find_17 h80.2.2 rfl ?_
        refine ab_iload d_MO_find_20 rfl ?_
        refine ab_aload_n d_MO_find_22 rfl ?_
        refine ab_getf (fs := mof m_thrown m_taped m_length m_out m_wide m_gathered m_sets m_ranges m_nodes m_at m_flags m_fault m_place m_numbered m_depth m_value m_isNot m_least0 m_most0 m_slot m_work m_got m_rowMany m_charAt m_charWide m_trail m_isMatch m_matchGroups m_allFrom m_allBefore m_founds m_pieces m_writtenMany m_templateWide m_tooMuch) f_MO_112 d_MO_find_23 h80.2.2 rfl ?_
        refine ab_iload_n d_MO_find_26 rfl ?_
        refine zz_iald d_MO_find_27 h113 (by omega) ?_
        refine ab_callS (d' := d - 1) (as := [vR 134, vz p, vz (A_entry s)]) (st := []) (z_MO_bit (o := o) (a := 134) (l := 334) (A := CN) (p := p) (k := (A_entry s)) h134 (by omega)) (fun oc G2 h => by rcases h with ⟨h, _⟩ | ⟨h, _⟩ <;> exact ⟨_, h⟩) (by omega) m_MO_bit ml_MO_528 st_MO_bit (Nat.le_of_ble_eq_true rfl) d_MO_find_28 rfl ?_
        intro v G3 hq
        rcases hq with ⟨hv, hGe, hq4⟩ | ⟨hv, hGe, hq5⟩
        · cases hv
          rw [hGe]
          change ab_W _ _ _ G 31 [some (vR 80), some (vz s), some (vz fm), some (vz sr), some (vz p), none] [vz 1] _
          refine zz_if_ne (tgt := 40) d_MO_find_31 (by decide) (by decide) (fun c6 => ?_) (fun c6 => absurd c6 (by decide))
          refine ab_less (L' := [some (vR 80), some (vz s), none, none, some (vz p), none]) (fun i v h => by rcases i with _ | _ | _ | _ | _ | _ | i <;> first | exact h | (simp at h)) ?_
          exact hk0 _ _ (by omega) (by exact jno) (by exact fun _ => Or.inr hq4) hfr hlen hsl
        · cases hv
          rw [hGe]
          change ab_W _ _ _ G 31 [some (vR 80), some (vz s), some (vz fm), some (vz sr), some (vz p), none] [vz 0] _
          refine zz_if_ne (tgt := 40) d_MO_find_31 (by decide) (by decide) (fun c7 => absurd c7 (by decide)) (fun c7 => ?_)
          refine zz_iinc d_MO_find_34 rfl (Nat.le_of_ble_eq_true rfl) (Nat.le_of_ble_eq_true rfl) rfl ?_
          change ab_W _ _ _ G 37 [some (vR 80), some (vz s), some (vz fm), some (vz sr), some (vz (p + 1)), none] [] _
          refine ab_goto (tgt := 3) d_MO_find_37 (by decide) ?_
          exact ih (p := (p + 1)) h80 h134 h113 (by omega) (noR_s jno (nt_no hnt jps (fun k a c => jsb k a (by omega)) (by omega) (by omega) hq5)) hfr hlen hsl (by omega) hk0
set_option maxRecDepth 100000 in
set_option maxHeartbeats 4000000 in
theorem z_MO_find {X : ab_X} {d : Nat} {o : Nat → Nat} {G : ab_G} {m_thrown : Int} {m_taped : Int} {m_length : Int} {m_out : Int} {m_wide : Int} {m_gathered : Int} {m_sets : Int} {m_ranges : Int} {m_nodes : Int} {m_at : Int} {m_flags : Int} {m_fault : Int} {m_place : Int} {m_numbered : Int} {m_depth : Int} {m_value : Int} {m_isNot : Int} {m_least0 : Int} {m_most0 : Int} {m_slot : Int} {m_work : Int} {m_got : Int} {m_rowMany : Int} {m_charAt : Int} {m_charWide : Int} {m_trail : Int} {m_isMatch : Int} {m_matchGroups : Int} {m_allFrom : Int} {m_allBefore : Int} {m_founds : Int} {m_pieces : Int} {m_writtenMany : Int} {m_templateWide : Int} {m_tooMuch : Int} {A_flagsOf : Int → Int} {A_step : Int → Int} {A_next : Int → Int} {A_more : Int → Int} {A_classAt : Int → Int} {A_classMany : Int → Int} {A_classLow : Int → Int} {A_classHigh : Int → Int} {A_subject : Int → Int} {A_stepMany : Int → Int} {A_entry : Int → Int} {CN : Int → Int} {JU : Int → Int} {CO : Int → Int} {ZN : Int → Int} {ZS : Int → Int} {SP : Int → Int} {PL : Int → Int} {PT : Int → Int} {TS : Int → Int} {TO : Int → Int} {s : Int} {fm : Int} {sr : Int} {to : Int} {v9 : Sn} {hw9 : Int} (h80 : cc o G 80 280 (ab_ob 12 (mof m_thrown m_taped m_length m_out m_wide m_gathered m_sets m_ranges m_nodes m_at m_flags m_fault m_place m_numbered m_depth m_value m_isNot m_least0 m_most0 m_slot m_work m_got m_rowMany m_charAt m_charWide m_trail m_isMatch m_matchGroups m_allFrom m_allBefore m_founds m_pieces m_writtenMany m_templateWide m_tooMuch))) (h134 : cc o G 134 334 (zl 392196 CN)) (h135 : cc o G 135 335 (zl 392196 JU)) (h136 : cc o G 136 336 (zl 392196 CO)) (h137 : cc o G 137 337 (zb 12500 ZN)) (h144 : cc o G 144 344 (zb 12500 ZS)) (h138 : cc o G 138 338 (za 20 SP)) (h142 : cc o G 142 342 (za 25000 PL)) (h143 : cc o G 143 343 (za 25000 PT)) (h140 : cc o G 140 340 (za 12500 TS)) (h141 : cc o G 141 341 (za 12500 TO)) (h116 : cc o G 116 316 (za 6 A_flagsOf)) (h118 : cc o G 118 318 (za 75000 A_step)) (h119 : cc o G 119 319 (za 75000 A_next)) (h120 : cc o G 120 320 (za 75000 A_more)) (h121 : cc o G 121 321 (za 75000 A_classAt)) (h122 : cc o G 122 322 (za 75000 A_classMany)) (h123 : cc o G 123 323 (za 3600 A_classLow)) (h124 : cc o G 124 324 (za 3600 A_classHigh)) (h85 : cc o G 85 285 (za 2000 A_subject)) (h117 : cc o G 117 317 (za 6 A_stepMany)) (h113 : cc o G 113 313 (za 6 A_entry)) (n18 : ab_n0 = 18) (cle : 0 ≤ m_length ∧ m_length ≤ 2000) (cs : 0 ≤ s ∧ s ≤ 5 ∧ 0 ≤ (A_stepMany s) ∧ (A_stepMany s) ≤ 12500) (jsg : sgood A_step A_next A_more A_classAt A_classMany (12500 * s) (A_stepMany s)) (jst : rgs A_step 75000 0 6) (jcl : rgs A_classLow 3600 0 1114111) (jch : rgs A_classHigh 3600 0 1114111) (jsb : rgs A_subject 2000 0 255) (cen : 0 ≤ (A_entry s) ∧ (A_entry s) < (A_stepMany s)) (cfl : 0 ≤ A_flagsOf s ∧ A_flagsOf s ≤ 31) (csr : 0 ≤ sr ∧ sr ≤ 1 ∧ 0 ≤ to ∧ to ≤ fm ∧ fm ≤ m_length ∧ hw9 + sr = 1) (hnr : nrows A_step A_next A_more A_classAt A_classMany A_classLow A_classHigh A_subject CN m_length (12500 * s) (A_stepMany s) m_length 0 (to - 1)) (hnt : ntK A_step A_next A_more A_classAt A_classMany A_classLow A_classHigh A_subject CN m_length (12500 * s) (A_stepMany s) m_length 0 to) (jps : prZ A_step A_next A_more A_classAt A_classMany A_classLow A_classHigh s (A_stepMany s) (A_entry s) v9) (jn : rgs ZN 12500 0 1) (jse : rgs ZS 12500 0 1) (jsp : rgs SP 20 (-1) 2000) (jpt : rgs PT 25000 0 12500) (jts : rgs TS 12500 0 19) (jto : rgs TO 12500 (-1) 2000) (hd : 8 ≤ d) : ab_F X d y_MO_find (.code y_MO_find b_MO_find 6 (some (.boolean))) [vR 80, vz s, vz fm, vz sr] G (fun oc G2 => (∃ w2 : Int, ∃ c2 : Int, ∃ cw2 : Int, ∃ t2 : Int, ∃ JU2 : Int → Int, ∃ CO2 : Int → Int, ∃ ZN2 : Int → Int, ∃ ZS2 : Int → Int, ∃ SP2 : Int → Int, ∃ PL2 : Int → Int, ∃ PT2 : Int → Int, ∃ TS2 : Int → Int, ∃ TO2 : Int → Int, oc = .returned (some (vz 1)) ∧ fx o o [280, 335, 336, 337, 344, 338, 342, 343, 340, 341] G G2 ∧ G2.length = G.length ∧ ab_slots G2 = ab_slots G ∧ cc o G2 80 280 (ab_ob 12 (mof m_thrown m_taped m_length m_out w2 m_gathered m_sets m_ranges m_nodes m_at m_flags m_fault m_place m_numbered m_depth m_value m_isNot m_least0 m_most0 m_slot m_work m_got m_rowMany c2 cw2 t2 m_isMatch m_matchGroups m_allFrom m_allBefore m_founds m_pieces m_writtenMany m_templateWide m_tooMuch)) ∧ cc o G2 135 335 (zl 392196 JU2) ∧ cc o G2 136 336 (zl 392196 CO2) ∧ cc o G2 137 337 (zb 12500 ZN2) ∧ cc o G2 144 344 (zb 12500 ZS2) ∧ cc o G2 138 338 (za 20 SP2) ∧ cc o G2 142 342 (za 25000 PL2) ∧ cc o G2 143 343 (za 25000 PT2) ∧ cc o G2 140 340 (za 12500 TS2) ∧ cc o G2 141 341 (za 12500 TO2) ∧ (rgs ZN2 12500 0 1) ∧ (rgs ZS2 12500 0 1) ∧ (rgs SP2 20 (-1) 2000) ∧ (rgs PT2 25000 0 12500) ∧ (rgs TS2 12500 0 19) ∧ (rgs TO2 12500 (-1) 2000) ∧ (fm ≤ SP2 0 ∧ SP2 0 ≤ SP2 1 ∧ SP2 1 ≤ m_length) ∧ (fdC v9 A_subject m_length (1 - A_flagsOf s / 16) hw9 fm 20 1 SP2)) ∨ (∃ w2 : Int, ∃ c2 : Int, ∃ cw2 : Int, ∃ t2 : Int, ∃ JU2 : Int → Int, ∃ CO2 : Int → Int, ∃ ZN2 : Int → Int, ∃ ZS2 : Int → Int, ∃ SP2 : Int → Int, ∃ PL2 : Int → Int, ∃ PT2 : Int → Int, ∃ TS2 : Int → Int, ∃ TO2 : Int → Int, oc = .returned (some (vz 0)) ∧ fx o o [280, 335, 336, 337, 344, 338, 342, 343, 340, 341] G G2 ∧ G2.length = G.length ∧ ab_slots G2 = ab_slots G ∧ cc o G2 80 280 (ab_ob 12 (mof m_thrown m_taped m_length m_out w2 m_gathered m_sets m_ranges m_nodes m_at m_flags m_fault m_place m_numbered m_depth m_value m_isNot m_least0 m_most0 m_slot m_work m_got m_rowMany c2 cw2 t2 m_isMatch m_matchGroups m_allFrom m_allBefore m_founds m_pieces m_writtenMany m_templateWide m_tooMuch)) ∧ cc o G2 135 335 (zl 392196 JU2) ∧ cc o G2 136 336 (zl 392196 CO2) ∧ cc o G2 137 337 (zb 12500 ZN2) ∧ cc o G2 144 344 (zb 12500 ZS2) ∧ cc o G2 138 338 (za 20 SP2) ∧ cc o G2 142 342 (za 25000 PL2) ∧ cc o G2 143 343 (za 25000 PT2) ∧ cc o G2 140 340 (za 12500 TS2) ∧ cc o G2 141 341 (za 12500 TO2) ∧ (rgs ZN2 12500 0 1) ∧ (rgs ZS2 12500 0 1) ∧ (rgs SP2 20 (-1) 2000) ∧ (rgs PT2 25000 0 12500) ∧ (rgs TS2 12500 0 19) ∧ (rgs TO2 12500 (-1) 2000) ∧ (fdC v9 A_subject m_length (1 - A_flagsOf s / 16) hw9 fm 20 0 SP2))) := by
  refine ab_F_of (by decide +kernel) (Nat.le_of_ble_eq_true rfl) ?_
  obtain ⟨Q, hQ⟩ : ∃ z : Outcome → ab_G → Prop, z = (fun oc G2 => (∃ w2 : Int, ∃ c2 : Int, ∃ cw2 : Int, ∃ t2 : Int, ∃ JU2 : Int → Int, ∃ CO2 : Int → Int, ∃ ZN2 : Int → Int, ∃ ZS2 : Int → Int, ∃ SP2 : Int → Int, ∃ PL2 : Int → Int, ∃ PT2 : Int → Int, ∃ TS2 : Int → Int, ∃ TO2 : Int → Int, oc = .returned (some (vz 1)) ∧ fx o o [280, 335, 336, 337, 344, 338, 342, 343, 340, 341] G G2 ∧ G2.length = G.length ∧ ab_slots G2 = ab_slots G ∧ cc o G2 80 280 (ab_ob 12 (mof m_thrown m_taped m_length m_out w2 m_gathered m_sets m_ranges m_nodes m_at m_flags m_fault m_place m_numbered m_depth m_value m_isNot m_least0 m_most0 m_slot m_work m_got m_rowMany c2 cw2 t2 m_isMatch m_matchGroups m_allFrom m_allBefore m_founds m_pieces m_writtenMany m_templateWide m_tooMuch)) ∧ cc o G2 135 335 (zl 392196 JU2) ∧ cc o G2 136 336 (zl 392196 CO2) ∧ cc o G2 137 337 (zb 12500 ZN2) ∧ cc o G2 144 344 (zb 12500 ZS2) ∧ cc o G2 138 338 (za 20 SP2) ∧ cc o G2 142 342 (za 25000 PL2) ∧ cc o G2 143 343 (za 25000 PT2) ∧ cc o G2 140 340 (za 12500 TS2) ∧ cc o G2 141 341 (za 12500 TO2) ∧ (rgs ZN2 12500 0 1) ∧ (rgs ZS2 12500 0 1) ∧ (rgs SP2 20 (-1) 2000) ∧ (rgs PT2 25000 0 12500) ∧ (rgs TS2 12500 0 19) ∧ (rgs TO2 12500 (-1) 2000) ∧ (fm ≤ SP2 0 ∧ SP2 0 ≤ SP2 1 ∧ SP2 1 ≤ m_length) ∧ (fdC v9 A_subject m_length (1 - A_flagsOf s / 16) hw9 fm 20 1 SP2)) ∨ (∃ w2 : Int, ∃ c2 : Int, ∃ cw2 : Int, ∃ t2 : Int, ∃ JU2 : Int → Int, ∃ CO2 : Int → Int, ∃ ZN2 : Int → Int, ∃ ZS2 : Int → Int, ∃ SP2 : Int → Int, ∃ PL2 : Int → Int, ∃ PT2 : Int → Int, ∃ TS2 : Int → Int, ∃ TO2 : Int → Int, oc = .returned (some (vz 0)) ∧ fx o o [280, 335, 336, 337, 344, 338, 342, 343, 340, 341] G G2 ∧ G2.length = G.length ∧ ab_slots G2 = ab_slots G ∧ cc o G2 80 280 (ab_ob 12 (mof m_thrown m_taped m_length m_out w2 m_gathered m_sets m_ranges m_nodes m_at m_flags m_fault m_place m_numbered m_depth m_value m_isNot m_least0 m_most0 m_slot m_work m_got m_rowMany c2 cw2 t2 m_isMatch m_matchGroups m_allFrom m_allBefore m_founds m_pieces m_writtenMany m_templateWide m_tooMuch)) ∧ cc o G2 135 335 (zl 392196 JU2) ∧ cc o G2 136 336 (zl 392196 CO2) ∧ cc o G2 137 337 (zb 12500 ZN2) ∧ cc o G2 144 344 (zb 12500 ZS2) ∧ cc o G2 138 338 (za 20 SP2) ∧ cc o G2 142 342 (za 25000 PL2) ∧ cc o G2 143 343 (za 25000 PT2) ∧ cc o G2 140 340 (za 12500 TS2) ∧ cc o G2 141 341 (za 12500 TO2) ∧ (rgs ZN2 12500 0 1) ∧ (rgs ZS2 12500 0 1) ∧ (rgs SP2 20 (-1) 2000) ∧ (rgs PT2 25000 0 12500) ∧ (rgs TS2 12500 0 19) ∧ (rgs TO2 12500 (-1) 2000) ∧ (fdC v9 A_subject m_length (1 - A_flagsOf s / 16) hw9 fm 20 0 SP2))) := ⟨_, rfl⟩
  rw [← hQ]
  change ab_W X (ab_pl y_MO_find b_MO_find 6 (some (.boolean))) d G 0 [some (vR 80), some (vz s), some (vz fm), some (vz sr), none, none] [] Q
  have hfr : fx o o [280, 335, 336, 337, 344, 338, 342, 343, 340, 341] G G := fx.rf
  have hlen : G.length = G.length := rfl
  have hsl : ab_slots G = ab_slots G := rfl
  refine ab_iload_n d_MO_find_0 rfl ?_
  refine ab_istore d_MO_find_1 (Nat.le_of_ble_eq_true rfl) (Nat.le_of_ble_eq_true rfl) rfl ?_
  change ab_W _ _ _ G 3 [some (vR 80), some (vz s), some (vz fm), some (vz sr), some (vz fm), none] [] _
  refine y_MO_find_3 (m_thrown := m_thrown) (m_taped := m_taped) (m_length := m_length) (m_out := m_out) (m_wide := m_wide) (m_gathered := m_gathered) (m_sets := m_sets) (m_ranges := m_ranges) (m_nodes := m_nodes) (m_at := m_at) (m_flags := m_flags) (m_fault := m_fault) (m_place := m_place) (m_numbered := m_numbered) (m_depth := m_depth) (m_value := m_value) (m_isNot := m_isNot) (m_least0 := m_least0) (m_most0 := m_most0) (m_slot := m_slot) (m_work := m_work) (m_got := m_got) (m_rowMany := m_rowMany) (m_charAt := m_charAt) (m_charWide := m_charWide) (m_trail := m_trail) (m_isMatch := m_isMatch) (m_matchGroups := m_matchGroups) (m_allFrom := m_allFrom) (m_allBefore := m_allBefore) (m_founds := m_founds) (m_pieces := m_pieces) (m_writtenMany := m_writtenMany) (m_templateWide := m_templateWide) (m_tooMuch := m_tooMuch) (A_flagsOf := A_flagsOf) (A_step := A_step) (A_next := A_next) (A_more := A_more) (A_classAt := A_classAt) (A_classMany := A_classMany) (A_classLow := A_classLow) (A_classHigh := A_classHigh) (A_subject := A_subject) (A_stepMany := A_stepMany) (A_entry := A_entry) (CN := CN) (s := s) (fm := fm) (sr := sr) (to := to) (v9 := v9) (hw9 := hw9) (G0 := G) (p := fm) (by omega) jsb (by omega) hnt jps (by omega) (by omega) (Int.toNat (m_length - fm) + 1) h80 h134 h113 (by omega) noR_0 fx.rf rfl rfl (by omega) (fun G1 p22 hq3 hq4 hq5 hfk hlk hsk => ?_)
  · have h80 := hfk.get h80 (by decide)
    have h134 := hfk.get h134 (by decide)
    have h135 := hfk.get h135 (by decide)
    have h136 := hfk.get h136 (by decide)
    have h137 := hfk.get h137 (by decide)
    have h144 := hfk.get h144 (by decide)
    have h138 := hfk.get h138 (by decide)
    have h142 := hfk.get h142 (by decide)
    have h143 := hfk.get h143 (by decide)
    have h140 := hfk.get h140 (by decide)
    have h141 := hfk.get h141 (by decide)
    have h116 := hfk.get h116 (by decide)
    have h118 := hfk.get h118 (by decide)
    have h119 := hfk.get h119 (by decide)
    have h120 := hfk.get h120 (by decide)
    have h121 := hfk.get h121 (by decide)
    have h122 := hfk.get h122 (by decide)
    have h123 := hfk.get h123 (by decide)
    have h124 := hfk.get h124 (by decide)
    have h85 := hfk.get h85 (by decide)
    have h117 := hfk.get h117 (by decide)
    have h113 := hfk.get h113 (by decide)
    have hfr := hfr.tr hfk (by decide)
    have hlen := hlk.trans hlen
    have hsl := hsk.trans hsl
    change ab_W _ _ _ G1 40 [some (vR 80), some (vz s), none, none, some (vz p22), none] [] _
    refine ab_aload_n d_MO_find_40 rfl ?_
    refine ab_getf (fs := mof m_thrown m_taped m_length m_out m_wide m_gathered m_sets m_ranges m_nodes m_at m_flags m_fault m_place m_numbered m_depth m_value m_isNot m_least0 m_most0 m_slot m_work m_got m_rowMany m_charAt m_charWide m_trail m_isMatch m_matchGroups m_allFrom m_allBefore m_founds m_pieces m_writtenMany m_templateWide m_tooMuch) f_MO_178 d_MO_find_41 h80.2.2 rfl ?_
    refine ab_iload d_MO_find_44 rfl ?_
    refine ab_aload_n d_MO_find_46 rfl ?_
    refine ab_getf (fs := mof m_thrown m_taped m_length m_out m_wide m_gathered m_sets m_ranges m_nodes m_at m_flags m_fault m_place m_numbered m_depth m_value m_isNot m_least0 m_most0 m_slot m_work m_got m_rowMany m_charAt m_charWide m_trail m_isMatch m_matchGroups m_allFrom m_allBefore m_founds m_pieces m_writtenMany m_templateWide m_tooMuch) f_MO_112 d_MO_find_47 h80.2.2 rfl ?_
    refine ab_iload_n d_MO_find_50 rfl ?_
    refine zz_iald d_MO_find_51 h113 (by omega) ?_
    refine ab_callS (d' := d - 1) (as := [vR 134, vz p22, vz (A_entry s)]) (st := []) (z_MO_bit (o := o) (a := 134) (l := 334) (A := CN) (p := p22) (k := (A_entry s)) h134 (by omega)) (fun oc G2 h => by rcases h with ⟨h, _⟩ | ⟨h, _⟩ <;> exact ⟨_, h⟩) (by omega) m_MO_bit ml_MO_528 st_MO_bit (Nat.le_of_ble_eq_true rfl) d_MO_find_52 rfl ?_
    intro v G6 hq
    rcases hq with ⟨hv, hGe, hq7⟩ | ⟨hv, hGe, hq8⟩
    · cases hv
      rw [hGe]
      change ab_W _ _ _ G1 55 [some (vR 80), some (vz s), none, none, some (vz p22), none] [vz 1] _
      refine zz_if_ne (tgt := 60) d_MO_find_55 (by decide) (by decide) (fun c9 => ?_) (fun c9 => absurd c9 (by decide))
      refine ab_aload_n d_MO_find_60 rfl ?_
      refine ab_getf (fs := mof m_thrown m_taped m_length m_out m_wide m_gathered m_sets m_ranges m_nodes m_at m_flags m_fault m_place m_numbered m_depth m_value m_isNot m_least0 m_most0 m_slot m_work m_got m_rowMany m_charAt m_charWide m_trail m_isMatch m_matchGroups m_allFrom m_allBefore m_founds m_pieces m_writtenMany m_templateWide m_tooMuch) f_MO_121 d_MO_find_61 h80.2.2 rfl ?_
      refine ab_iload_n d_MO_find_64 rfl ?_
      refine zz_iald d_MO_find_65 h116 (by omega) ?_
      refine zz_bipush d_MO_find_66 (by decide) ?_
      refine zz_iand5 (c := 16) 4 d_MO_find_68 (by decide) (by decide) (by decide) (by omega) ?_
      refine zz_if_ne (tgt := 86) d_MO_find_69 (by decide) (by omega) (fun c10 => ?_) (fun c10 => ?_)
      · refine ab_aload_n d_MO_find_86 rfl ?_
        refine ab_iload_n d_MO_find_87 rfl ?_
        refine ab_iload d_MO_find_88 rfl ?_
        refine ab_callV (d' := d - 1) (as := [vz s, vz p22]) (st := []) (r := _) (z_MO_lastEnd (o := o) (m_thrown := m_thrown) (m_taped := m_taped) (m_length := m_length) (m_out := m_out) (m_wide := m_wide) (m_gathered := m_gathered) (m_sets := m_sets) (m_ranges := m_ranges) (m_nodes := m_nodes) (m_at := m_at) (m_flags := m_flags) (m_fault := m_fault) (m_place := m_place) (m_numbered := m_numbered) (m_depth := m_depth) (m_value := m_value) (m_isNot := m_isNot) (m_least0 := m_least0) (m_most0 := m_most0) (m_slot := m_slot) (m_work := m_work) (m_got := m_got) (m_rowMany := m_rowMany) (m_charAt := m_charAt) (m_charWide := m_charWide) (m_trail := m_trail) (m_isMatch := m_isMatch) (m_matchGroups := m_matchGroups) (m_allFrom := m_allFrom) (m_allBefore := m_allBefore) (m_founds := m_founds) (m_pieces := m_pieces) (m_writtenMany := m_writtenMany) (m_templateWide := m_templateWide) (m_tooMuch := m_tooMuch) (A_subject := A_subject) (A_stepMany := A_stepMany) (A_entry := A_entry) (A_step := A_step) (A_next := A_next) (A_more := A_more) (A_classAt := A_classAt) (A_classMany := A_classMany) (A_classLow := A_classLow) (A_classHigh := A_classHigh) (CO := CO) (s := s) (fm := p22) h80 h136 h118 h119 h120 h121 h122 h123 h124 h85 h117 h113 (by omega) (by omega) (by omega) jsg jst jcl jch jsb (by omega) (by omega)) (fun oc G2 h => by rcases h with ⟨_, _, _, _, _, _, h, _⟩ <;> exact ⟨_, h⟩) (by omega) m_MO_lastEnd ml_MO_556 im_MO_lastEnd se_MO_lastEnd c_MO h80.2.2 (Nat.le_of_ble_eq_true rfl) d_MO_find_90 rfl ?_
        intro v G11 hq
        rcases hq with ⟨l212, f213, w214, ch215, cw216, C217, hv, hfk, hlk, hsk, hN80, hN136, hq18, hq19, hq20, hq21⟩
        cases hv
        have h134 := hfk.get h134 (by decide)
        have h135 := hfk.get h135 (by decide)
        have h137 := hfk.get h137 (by decide)
        have h144 := hfk.get h144 (by decide)
        have h138 := hfk.get h138 (by decide)
        have h142 := hfk.get h142 (by decide)
        have h143 := hfk.get h143 (by decide)
        have h140 := hfk.get h140 (by decide)
        have h141 := hfk.get h141 (by decide)
        have h116 := hfk.get h116 (by decide)
        have h118 := hfk.get h118 (by decide)
        have h119 := hfk.get h119 (by decide)
        have h120 := hfk.get h120 (by decide)
        have h121 := hfk.get h121 (by decide)
        have h122 := hfk.get h122 (by decide)
        have h123 := hfk.get h123 (by decide)
        have h124 := hfk.get h124 (by decide)
        have h85 := hfk.get h85 (by decide)
        have h117 := hfk.get h117 (by decide)
        have h113 := hfk.get h113 (by decide)
        have hfr := hfr.tr hfk (by decide)
        have hlen := hlk.trans hlen
        have hsl := hsk.trans hsl
        have h80 := hN80
        have h136 := hN136
        change ab_W _ _ _ G11 93 [some (vR 80), some (vz s), none, none, some (vz p22), none] [vz l212] _
        refine ab_istore d_MO_find_93 (Nat.le_of_ble_eq_true rfl) (Nat.le_of_ble_eq_true rfl) rfl ?_
        change ab_W _ _ _ G11 95 [some (vR 80), some (vz s), none, none, some (vz p22), some (vz l212)] [] _
        have hl0_ : 0 ≤ l212 := Int.le_trans (by omega) (fcl_end (fun q a c => hq19 q a (by omega)) hnr jsg (by omega) (by omega) (by omega) hq7 hq20)
        obtain ⟨hle_, hln_⟩ := hq21 hl0_
        have hln2_ := hln_
        obtain ⟨k_, hk_, hkt_, hld_⟩ := hln_
        refine ab_aload_n d_MO_find_95 rfl ?_
        refine ab_aload_n d_MO_find_96 rfl ?_
        refine ab_getf (fs := mof m_thrown m_taped m_length m_out w214 m_gathered m_sets m_ranges m_nodes m_at m_flags m_fault m_place m_numbered m_depth m_value m_isNot m_least0 m_most0 m_slot m_work m_got m_rowMany ch215 cw216 m_trail m_isMatch m_matchGroups m_allFrom m_allBefore m_founds m_pieces m_writtenMany m_templateWide m_tooMuch) f_MO_181 d_MO_find_97 h80.2.2 rfl ?_
        refine ab_iload_n d_MO_find_100 rfl ?_
        refine ab_iload d_MO_find_101 rfl ?_
        refine ab_iload d_MO_find_103 rfl ?_
        refine zz_iconst d_MO_find_105 ?_
        refine ab_callV (d' := d - 1) (as := [vR 135, vz s, vz l212, vz p22, vz 1]) (st := []) (r := _) (z_MO_note (o := o) (m_thrown := m_thrown) (m_taped := m_taped) (m_length := m_length) (m_out := m_out) (m_wide := w214) (m_gathered := m_gathered) (m_sets := m_sets) (m_ranges := m_ranges) (m_nodes := m_nodes) (m_at := m_at) (m_flags := m_flags) (m_fault := m_fault) (m_place := m_place) (m_numbered := m_numbered) (m_depth := m_depth) (m_value := m_value) (m_isNot := m_isNot) (m_least0 := m_least0) (m_most0 := m_most0) (m_slot := m_slot) (m_work := m_work) (m_got := m_got) (m_rowMany := m_rowMany) (m_charAt := ch215) (m_charWide := cw216) (m_trail := m_trail) (m_isMatch := m_isMatch) (m_matchGroups := m_matchGroups) (m_allFrom := m_allFrom) (m_allBefore := m_allBefore) (m_founds := m_founds) (m_pieces := m_pieces) (m_writtenMany := m_writtenMany) (m_templateWide := m_templateWide) (m_tooMuch := m_tooMuch) (A_subject := A_subject) (A_stepMany := A_stepMany) (A_step := A_step) (A_next := A_next) (A_more := A_more) (A_classAt := A_classAt) (A_classMany := A_classMany) (A_classLow := A_classLow) (A_classHigh := A_classHigh) (no := 135) (lno := 335) (NO := JU) (Z := ZN) (s := s) (fr := l212) (to := p22) (al := 1) h80 h135 h137 h118 h119 h120 h121 h122 h123 h124 h85 h117 (by omega) (by omega) (by omega) (by omega) jsg jst jcl jch jsb (by omega) jn (by omega)) (fun oc G2 h => by rcases h with ⟨_, _, _, _, _, h, _⟩ <;> exact ⟨_, h⟩) (by omega) m_MO_note ml_MO_559 im_MO_note se_MO_note c_MO h80.2.2 (Nat.le_of_ble_eq_true rfl) d_MO_find_106 rfl ?_
        intro v G22 hq
        rcases hq with ⟨NO223, Z224, w225, c226, cw227, hv, hfk, hlk, hsk, hN80, hN135, hN137, hq28, hq29, hq30⟩
        cases hv
        have h134 := hfk.get h134 (by decide)
        have h136 := hfk.get h136 (by decide)
        have h144 := hfk.get h144 (by decide)
        have h138 := hfk.get h138 (by decide)
        have h142 := hfk.get h142 (by decide)
        have h143 := hfk.get h143 (by decide)
        have h140 := hfk.get h140 (by decide)
        have h141 := hfk.get h141 (by decide)
        have h116 := hfk.get h116 (by decide)
        have h118 := hfk.get h118 (by decide)
        have h119 := hfk.get h119 (by decide)
        have h120 := hfk.get h120 (by decide)
        have h121 := hfk.get h121 (by decide)
        have h122 := hfk.get h122 (by decide)
        have h123 := hfk.get h123 (by decide)
        have h124 := hfk.get h124 (by decide)
        have h85 := hfk.get h85 (by decide)
        have h117 := hfk.get h117 (by decide)
        have h113 := hfk.get h113 (by decide)
        have hfr := hfr.tr hfk (by decide)
        have hlen := hlk.trans hlen
        have hsl := hsk.trans hsl
        have h80 := hN80
        have h135 := hN135
        have h137 := hN137
        change ab_W _ _ _ G22 109 [some (vR 80), some (vz s), none, none, some (vz p22), some (vz l212)] [] _
        refine ab_aload_n d_MO_find_109 rfl ?_
        refine ab_aload_n d_MO_find_110 rfl ?_
        refine ab_getf (fs := mof m_thrown m_taped m_length m_out w225 m_gathered m_sets m_ranges m_nodes m_at m_flags m_fault m_place m_numbered m_depth m_value m_isNot m_least0 m_most0 m_slot m_work m_got m_rowMany c226 cw227 m_trail m_isMatch m_matchGroups m_allFrom m_allBefore m_founds m_pieces m_writtenMany m_templateWide m_tooMuch) f_MO_181 d_MO_find_111 h80.2.2 rfl ?_
        refine ab_iload_n d_MO_find_114 rfl ?_
        refine ab_iload d_MO_find_115 rfl ?_
        refine ab_iload d_MO_find_117 rfl ?_
        refine ab_callV (d' := d - 1) (as := [vR 135, vz s, vz p22, vz l212]) (st := []) (r := _) (z_MO_walk (o := o) (m_thrown := m_thrown) (m_taped := m_taped) (m_length := m_length) (m_out := m_out) (m_wide := w225) (m_gathered := m_gathered) (m_sets := m_sets) (m_ranges := m_ranges) (m_nodes := m_nodes) (m_at := m_at) (m_flags := m_flags) (m_fault := m_fault) (m_place := m_place) (m_numbered := m_numbered) (m_depth := m_depth) (m_value := m_value) (m_isNot := m_isNot) (m_least0 := m_least0) (m_most0 := m_most0) (m_slot := m_slot) (m_work := m_work) (m_got := m_got) (m_rowMany := m_rowMany) (m_charAt := c226) (m_charWide := cw227) (m_trail := m_trail) (m_isMatch := m_isMatch) (m_matchGroups := m_matchGroups) (m_allFrom := m_allFrom) (m_allBefore := m_allBefore) (m_founds := m_founds) (m_pieces := m_pieces) (m_writtenMany := m_writtenMany) (m_templateWide := m_templateWide) (m_tooMuch := m_tooMuch) (A_subject := A_subject) (A_stepMany := A_stepMany) (A_step := A_step) (A_next := A_next) (A_more := A_more) (A_classAt := A_classAt) (A_classMany := A_classMany) (A_classLow := A_classLow) (A_classHigh := A_classHigh) (no := 135) (lno := 335) (NO := NO223) (Z := ZS) (s := s) (fr := l212) (to := p22) (al := 1) (SP := SP) (PL := PL) (PT := PT) (TS := TS) (TO := TO) (ls := l212) (fm := p22) (hw9 := 2) (S9 := (fA 2 l212 (wyR v9 A_subject m_length p22))) (A_entry := A_entry) h80 h138 h142 h143 h140 h141 h144 h135 h118 h119 h120 h121 h122 h123 h124 h85 h117 h113 (by omega) (by omega) (by omega) (by omega) jsg jst jcl jch jsb (fun h => by omega) (fun _ => ⟨rfl, rfl⟩) (by omega) hq29 (ntK_of (fun k a c => jsb k a (by omega)) jsg hq29 hq30 (by omega) (by omega)) (Or.inr ⟨rfl, rfl⟩) (by omega) (lead_just hld_ hq30 jsg (by omega) (by omega) hk_ hkt_) jse jsp jpt jts jto (gn0_l jps (fun k a c => jsb k a (by omega)) (by omega) (last_le jps (fun k a c => jsb k a (by omega)) jsg hq19 (by omega) (by omega) hq20)) (by omega)) (fun oc G2 h => by rcases h with ⟨_, _, _, _, _, _, _, _, _, _, _, h, _⟩ <;> exact ⟨_, h⟩) (by omega) m_MO_walk ml_MO_552 im_MO_walk se_MO_walk c_MO h80.2.2 (Nat.le_of_ble_eq_true rfl) d_MO_find_119 rfl ?_
        intro v G31 hq
        rcases hq with ⟨p232, w233, c234, cw235, t236, Z237, SP238, PL239, PT240, TS241, TO242, hv, hfk, hlk, hsk, hN80, hN138, hN142, hN143, hN140, hN141, hN144, hq43, hq44, hq45, hq46, hq47, hq48, hq49, hq50, hq51⟩
        cases hv
        have h134 := hfk.get h134 (by decide)
        have h135 := hfk.get h135 (by decide)
        have h136 := hfk.get h136 (by decide)
        have h137 := hfk.get h137 (by decide)
        have h116 := hfk.get h116 (by decide)
        have h118 := hfk.get h118 (by decide)
        have h119 := hfk.get h119 (by decide)
        have h120 := hfk.get h120 (by decide)
        have h121 := hfk.get h121 (by decide)
        have h122 := hfk.get h122 (by decide)
        have h123 := hfk.get h123 (by decide)
        have h124 := hfk.get h124 (by decide)
        have h85 := hfk.get h85 (by decide)
        have h117 := hfk.get h117 (by decide)
        have h113 := hfk.get h113 (by decide)
        have hfr := hfr.tr hfk (by decide)
        have hlen := hlk.trans hlen
        have hsl := hsk.trans hsl
        have h80 := hN80
        have h138 := hN138
        have h142 := hN142
        have h143 := hN143
        have h140 := hN140
        have h141 := hN141
        have h144 := hN144
        change ab_W _ _ _ G31 122 [some (vR 80), some (vz s), none, none, some (vz p22), some (vz l212)] [] _
        refine zz_iconst d_MO_find_122 ?_
        refine zz_bret rfl (by decide) d_MO_find_123 ?_
        rw [hQ]; exact (Or.inl ⟨_, _, _, _, _, _, _, _, _, _, _, _, _, rfl, hfr, hlen, hsl, h80, h135, h136, h137, h144, h138, h142, h143, h140, h141, (by first | exact hq28 | exact rgs_w hq28 (by omega)), (by first | exact hq47 | exact rgs_w hq47 (by omega)), (by first | exact hq43 | exact rgs_w hq43 (by omega)), (by first | exact hq44 | exact rgs_w hq44 (by omega)), (by first | exact hq45 | exact rgs_w hq45 (by omega)), (by first | exact hq46 | exact rgs_w hq46 (by omega)), (by omega), (by exact fd_yes hq4 (mtR_last (by omega) (by omega) (last_le jps (fun k a c => jsb k a (by omega)) jsg hq19 (by omega) (by omega) hq20) (last_is jps (fun k a c => jsb k a (by omega)) jsg hln2_ (by omega) (by omega))) (by omega) (fun h => by omega) hq51)⟩)
      · refine ab_aload_n d_MO_find_72 rfl ?_
        refine ab_aload_n d_MO_find_73 rfl ?_
        refine ab_getf (fs := mof m_thrown m_taped m_length m_out m_wide m_gathered m_sets m_ranges m_nodes m_at m_flags m_fault m_place m_numbered m_depth m_value m_isNot m_least0 m_most0 m_slot m_work m_got m_rowMany m_charAt m_charWide m_trail m_isMatch m_matchGroups m_allFrom m_allBefore m_founds m_pieces m_writtenMany m_templateWide m_tooMuch) f_MO_178 d_MO_find_74 h80.2.2 rfl ?_
        refine ab_iload_n d_MO_find_77 rfl ?_
        refine ab_iload d_MO_find_78 rfl ?_
        refine zz_iconst d_MO_find_80 ?_
        refine ab_callV (d' := d - 1) (as := [vR 134, vz s, vz p22, vz (-1)]) (st := []) (r := _) (z_MO_walk (o := o) (m_thrown := m_thrown) (m_taped := m_taped) (m_length := m_length) (m_out := m_out) (m_wide := m_wide) (m_gathered := m_gathered) (m_sets := m_sets) (m_ranges := m_ranges) (m_nodes := m_nodes) (m_at := m_at) (m_flags := m_flags) (m_fault := m_fault) (m_place := m_place) (m_numbered := m_numbered) (m_depth := m_depth) (m_value := m_value) (m_isNot := m_isNot) (m_least0 := m_least0) (m_most0 := m_most0) (m_slot := m_slot) (m_work := m_work) (m_got := m_got) (m_rowMany := m_rowMany) (m_charAt := m_charAt) (m_charWide := m_charWide) (m_trail := m_trail) (m_isMatch := m_isMatch) (m_matchGroups := m_matchGroups) (m_allFrom := m_allFrom) (m_allBefore := m_allBefore) (m_founds := m_founds) (m_pieces := m_pieces) (m_writtenMany := m_writtenMany) (m_templateWide := m_templateWide) (m_tooMuch := m_tooMuch) (A_subject := A_subject) (A_stepMany := A_stepMany) (A_step := A_step) (A_next := A_next) (A_more := A_more) (A_classAt := A_classAt) (A_classMany := A_classMany) (A_classLow := A_classLow) (A_classHigh := A_classHigh) (no := 134) (lno := 334) (NO := CN) (Z := ZS) (s := s) (fr := m_length) (to := to) (al := 0) (SP := SP) (PL := PL) (PT := PT) (TS := TS) (TO := TO) (ls := (-1)) (fm := p22) (hw9 := 0) (S9 := (fA 0 m_length (wyR v9 A_subject m_length p22))) (A_entry := A_entry) h80 h138 h142 h143 h140 h141 h144 h134 h118 h119 h120 h121 h122 h123 h124 h85 h117 h113 (by omega) (by omega) (by omega) (by omega) jsg jst jcl jch jsb (fun _ => ⟨rfl, rfl⟩) (fun h => absurd h (by decide)) (by omega) hnr hnt (Or.inl ⟨rfl, rfl⟩) (by omega) hq7 jse jsp jpt jts jto (gn0_f jps (fun k a c => jsb k a (by omega)) (by omega)) (by omega)) (fun oc G2 h => by rcases h with ⟨_, _, _, _, _, _, _, _, _, _, _, h, _⟩ <;> exact ⟨_, h⟩) (by omega) m_MO_walk ml_MO_552 im_MO_walk se_MO_walk c_MO h80.2.2 (Nat.le_of_ble_eq_true rfl) d_MO_find_81 rfl ?_
        intro v G52 hq
        rcases hq with ⟨p253, w254, c255, cw256, t257, Z258, SP259, PL260, PT261, TS262, TO263, hv, hfk, hlk, hsk, hN80, hN138, hN142, hN143, hN140, hN141, hN144, hq64, hq65, hq66, hq67, hq68, hq69, hq70, hq71, hq72⟩
        cases hv
        have h134 := hfk.get h134 (by decide)
        have h135 := hfk.get h135 (by decide)
        have h136 := hfk.get h136 (by decide)
        have h137 := hfk.get h137 (by decide)
        have h116 := hfk.get h116 (by decide)
        have h118 := hfk.get h118 (by decide)
        have h119 := hfk.get h119 (by decide)
        have h120 := hfk.get h120 (by decide)
        have h121 := hfk.get h121 (by decide)
        have h122 := hfk.get h122 (by decide)
        have h123 := hfk.get h123 (by decide)
        have h124 := hfk.get h124 (by decide)
        have h85 := hfk.get h85 (by decide)
        have h117 := hfk.get h117 (by decide)
        have h113 := hfk.get h113 (by decide)
        have hfr := hfr.tr hfk (by decide)
        have hlen := hlk.trans hlen
        have hsl := hsk.trans hsl
        have h80 := hN80
        have h138 := hN138
        have h142 := hN142
        have h143 := hN143
        have h140 := hN140
        have h141 := hN141
        have h144 := hN144
        change ab_W _ _ _ G52 84 [some (vR 80), some (vz s), none, none, some (vz p22), none] [] _
        refine zz_iconst d_MO_find_84 ?_
        refine zz_bret rfl (by decide) d_MO_find_85 ?_
        rw [hQ]; exact (Or.inl ⟨_, _, _, _, _, _, _, _, _, _, _, _, _, rfl, hfr, hlen, hsl, h80, h135, h136, h137, h144, h138, h142, h143, h140, h141, (by first | exact jn | exact rgs_w jn (by omega)), (by first | exact hq68 | exact rgs_w hq68 (by omega)), (by first | exact hq64 | exact rgs_w hq64 (by omega)), (by first | exact hq65 | exact rgs_w hq65 (by omega)), (by first | exact hq66 | exact rgs_w hq66 (by omega)), (by first | exact hq67 | exact rgs_w hq67 (by omega)), (by omega), (by exact fd_yes hq4 (mtR_f (by omega) (by omega)) (by omega) (fun h => by omega) hq72)⟩)
    · cases hv
      rw [hGe]
      change ab_W _ _ _ G1 55 [some (vR 80), some (vz s), none, none, some (vz p22), none] [vz 0] _
      refine zz_if_ne (tgt := 60) d_MO_find_55 (by decide) (by decide) (fun c73 => absurd c73 (by decide)) (fun c73 => ?_)
      refine zz_iconst d_MO_find_58 ?_
      refine zz_bret rfl (by decide) d_MO_find_59 ?_
      rw [hQ]; exact (Or.inr ⟨_, _, _, _, _, _, _, _, _, _, _, _, _, rfl, hfr, hlen, hsl, h80, h135, h136, h137, h144, h138, h142, h143, h140, h141, (by first | exact jn | exact rgs_w jn (by omega)), (by first | exact jse | exact rgs_w jse (by omega)), (by first | exact jsp | exact rgs_w jsp (by omega)), (by first | exact jpt | exact rgs_w jpt (by omega)), (by first | exact jts | exact rgs_w jts (by omega)), (by first | exact jto | exact rgs_w jto (by omega)), (by exact fd_no hq4 (nt_no hnt jps (fun k a c => jsb k a (by omega)) (by omega) (by omega) hq8) (fun h => (hq5 (by omega)).resolve_right hq8) (fun h => by omega))⟩)
set_option maxRecDepth 100000 in
set_option maxHeartbeats 4000000 in
theorem z_MO_beginAll {X : ab_X} {d : Nat} {o : Nat → Nat} {G : ab_G} {m_thrown : Int} {m_taped : Int} {m_length : Int} {m_out : Int} {m_wide : Int} {m_gathered : Int} {m_sets : Int} {m_ranges : Int} {m_nodes : Int} {m_at : Int} {m_flags : Int} {m_fault : Int} {m_place : Int} {m_numbered : Int} {m_depth : Int} {m_value : Int} {m_isNot : Int} {m_least0 : Int} {m_most0 : Int} {m_slot : Int} {m_work : Int} {m_got : Int} {m_rowMany : Int} {m_charAt : Int} {m_charWide : Int} {m_trail : Int} {m_isMatch : Int} {m_matchGroups : Int} {m_allFrom : Int} {m_allBefore : Int} {m_founds : Int} {m_pieces : Int} {m_writtenMany : Int} {m_templateWide : Int} {m_tooMuch : Int} {A_step : Int → Int} {A_next : Int → Int} {A_more : Int → Int} {A_classAt : Int → Int} {A_classMany : Int → Int} {A_classLow : Int → Int} {A_classHigh : Int → Int} {A_subject : Int → Int} {A_stepMany : Int → Int} {A_entry : Int → Int} {CN : Int → Int} {ZN : Int → Int} {s : Int} (h80 : cc o G 80 280 (ab_ob 12 (mof m_thrown m_taped m_length m_out m_wide m_gathered m_sets m_ranges m_nodes m_at m_flags m_fault m_place m_numbered m_depth m_value m_isNot m_least0 m_most0 m_slot m_work m_got m_rowMany m_charAt m_charWide m_trail m_isMatch m_matchGroups m_allFrom m_allBefore m_founds m_pieces m_writtenMany m_templateWide m_tooMuch))) (h134 : cc o G 134 334 (zl 392196 CN)) (h137 : cc o G 137 337 (zb 12500 ZN)) (h118 : cc o G 118 318 (za 75000 A_step)) (h119 : cc o G 119 319 (za 75000 A_next)) (h120 : cc o G 120 320 (za 75000 A_more)) (h121 : cc o G 121 321 (za 75000 A_classAt)) (h122 : cc o G 122 322 (za 75000 A_classMany)) (h123 : cc o G 123 323 (za 3600 A_classLow)) (h124 : cc o G 124 324 (za 3600 A_classHigh)) (h85 : cc o G 85 285 (za 2000 A_subject)) (h117 : cc o G 117 317 (za 6 A_stepMany)) (h113 : cc o G 113 313 (za 6 A_entry)) (n18 : ab_n0 = 18) (cle : 0 ≤ m_length ∧ m_length ≤ 2000) (cs : 0 ≤ s ∧ s ≤ 5 ∧ 0 ≤ (A_stepMany s) ∧ (A_stepMany s) ≤ 12500) (jsg : sgood A_step A_next A_more A_classAt A_classMany (12500 * s) (A_stepMany s)) (jst : rgs A_step 75000 0 6) (jcl : rgs A_classLow 3600 0 1114111) (jch : rgs A_classHigh 3600 0 1114111) (jsb : rgs A_subject 2000 0 255) (jn : rgs ZN 12500 0 1) (hd : 7 ≤ d) : ab_F X d y_MO_beginAll (.code y_MO_beginAll b_MO_beginAll 2 none) [vR 80, vz s] G (fun oc G2 => ∃ w2 : Int, ∃ c2 : Int, ∃ cw2 : Int, ∃ CN2 : Int → Int, ∃ ZN2 : Int → Int, oc = .returned none ∧ fx o o [280, 334, 337] G G2 ∧ G2.length = G.length ∧ ab_slots G2 = ab_slots G ∧ cc o G2 80 280 (ab_ob 12 (mof m_thrown m_taped m_length m_out w2 m_gathered m_sets m_ranges m_nodes m_at m_flags m_fault m_place m_numbered m_depth m_value m_isNot m_least0 m_most0 m_slot m_work m_got m_rowMany c2 cw2 m_trail m_isMatch m_matchGroups 0 (-1) m_founds m_pieces m_writtenMany m_templateWide m_tooMuch)) ∧ cc o G2 134 334 (zl 392196 CN2) ∧ cc o G2 137 337 (zb 12500 ZN2) ∧ (rgs ZN2 12500 0 1) ∧ (nrows A_step A_next A_more A_classAt A_classMany A_classLow A_classHigh A_subject CN2 m_length (12500 * s) (A_stepMany s) m_length 0 (0 - 1)) ∧ (ntK A_step A_next A_more A_classAt A_classMany A_classLow A_classHigh A_subject CN2 m_length (12500 * s) (A_stepMany s) m_length 0 0)) := by
  refine ab_F_of (by decide +kernel) (Nat.le_of_ble_eq_true rfl) ?_
  obtain ⟨Q, hQ⟩ : ∃ z : Outcome → ab_G → Prop, z = (fun oc G2 => ∃ w2 : Int, ∃ c2 : Int, ∃ cw2 : Int, ∃ CN2 : Int → Int, ∃ ZN2 : Int → Int, oc = .returned none ∧ fx o o [280, 334, 337] G G2 ∧ G2.length = G.length ∧ ab_slots G2 = ab_slots G ∧ cc o G2 80 280 (ab_ob 12 (mof m_thrown m_taped m_length m_out w2 m_gathered m_sets m_ranges m_nodes m_at m_flags m_fault m_place m_numbered m_depth m_value m_isNot m_least0 m_most0 m_slot m_work m_got m_rowMany c2 cw2 m_trail m_isMatch m_matchGroups 0 (-1) m_founds m_pieces m_writtenMany m_templateWide m_tooMuch)) ∧ cc o G2 134 334 (zl 392196 CN2) ∧ cc o G2 137 337 (zb 12500 ZN2) ∧ (rgs ZN2 12500 0 1) ∧ (nrows A_step A_next A_more A_classAt A_classMany A_classLow A_classHigh A_subject CN2 m_length (12500 * s) (A_stepMany s) m_length 0 (0 - 1)) ∧ (ntK A_step A_next A_more A_classAt A_classMany A_classLow A_classHigh A_subject CN2 m_length (12500 * s) (A_stepMany s) m_length 0 0)) := ⟨_, rfl⟩
  rw [← hQ]
  change ab_W X (ab_pl y_MO_beginAll b_MO_beginAll 2 none) d G 0 [some (vR 80), some (vz s)] [] Q
  have hfr : fx o o [280, 334, 337] G G := fx.rf
  have hlen : G.length = G.length := rfl
  have hsl : ab_slots G = ab_slots G := rfl
  refine ab_aload_n d_MO_beginAll_0 rfl ?_
  refine ab_aload_n d_MO_beginAll_1 rfl ?_
  refine ab_getf (fs := mof m_thrown m_taped m_length m_out m_wide m_gathered m_sets m_ranges m_nodes m_at m_flags m_fault m_place m_numbered m_depth m_value m_isNot m_least0 m_most0 m_slot m_work m_got m_rowMany m_charAt m_charWide m_trail m_isMatch m_matchGroups m_allFrom m_allBefore m_founds m_pieces m_writtenMany m_templateWide m_tooMuch) f_MO_178 d_MO_beginAll_2 h80.2.2 rfl ?_
  refine ab_iload_n d_MO_beginAll_5 rfl ?_
  refine ab_aload_n d_MO_beginAll_6 rfl ?_
  refine ab_getf (fs := mof m_thrown m_taped m_length m_out m_wide m_gathered m_sets m_ranges m_nodes m_at m_flags m_fault m_place m_numbered m_depth m_value m_isNot m_least0 m_most0 m_slot m_work m_got m_rowMany m_charAt m_charWide m_trail m_isMatch m_matchGroups m_allFrom m_allBefore m_founds m_pieces m_writtenMany m_templateWide m_tooMuch) f_MO_510 d_MO_beginAll_7 h80.2.2 rfl ?_
  refine zz_iconst d_MO_beginAll_10 ?_
  refine zz_iconst d_MO_beginAll_11 ?_
  refine ab_callV (d' := d - 1) (as := [vR 134, vz s, vz m_length, vz 0, vz 0]) (st := []) (r := _) (z_MO_note (o := o) (m_thrown := m_thrown) (m_taped := m_taped) (m_length := m_length) (m_out := m_out) (m_wide := m_wide) (m_gathered := m_gathered) (m_sets := m_sets) (m_ranges := m_ranges) (m_nodes := m_nodes) (m_at := m_at) (m_flags := m_flags) (m_fault := m_fault) (m_place := m_place) (m_numbered := m_numbered) (m_depth := m_depth) (m_value := m_value) (m_isNot := m_isNot) (m_least0 := m_least0) (m_most0 := m_most0) (m_slot := m_slot) (m_work := m_work) (m_got := m_got) (m_rowMany := m_rowMany) (m_charAt := m_charAt) (m_charWide := m_charWide) (m_trail := m_trail) (m_isMatch := m_isMatch) (m_matchGroups := m_matchGroups) (m_allFrom := m_allFrom) (m_allBefore := m_allBefore) (m_founds := m_founds) (m_pieces := m_pieces) (m_writtenMany := m_writtenMany) (m_templateWide := m_templateWide) (m_tooMuch := m_tooMuch) (A_subject := A_subject) (A_stepMany := A_stepMany) (A_step := A_step) (A_next := A_next) (A_more := A_more) (A_classAt := A_classAt) (A_classMany := A_classMany) (A_classLow := A_classLow) (A_classHigh := A_classHigh) (no := 134) (lno := 334) (NO := CN) (Z := ZN) (s := s) (fr := m_length) (to := 0) (al := 0) h80 h134 h137 h118 h119 h120 h121 h122 h123 h124 h85 h117 (by omega) (by omega) (by omega) (by omega) jsg jst jcl jch jsb (by omega) jn (by omega)) (fun oc G2 h => by rcases h with ⟨_, _, _, _, _, h, _⟩ <;> exact ⟨_, h⟩) (by omega) m_MO_note ml_MO_559 im_MO_note se_MO_note c_MO h80.2.2 (Nat.le_of_ble_eq_true rfl) d_MO_beginAll_12 rfl ?_
  intro v G1 hq
  rcases hq with ⟨NO22, Z23, w24, c25, cw26, hv, hfk, hlk, hsk, hN80, hN134, hN137, hq7, hq8, hq9⟩
  cases hv
  have h118 := hfk.get h118 (by decide)
  have h119 := hfk.get h119 (by decide)
  have h120 := hfk.get h120 (by decide)
  have h121 := hfk.get h121 (by decide)
  have h122 := hfk.get h122 (by decide)
  have h123 := hfk.get h123 (by decide)
  have h124 := hfk.get h124 (by decide)
  have h85 := hfk.get h85 (by decide)
  have h117 := hfk.get h117 (by decide)
  have h113 := hfk.get h113 (by decide)
  have hfr := hfr.tr hfk (by decide)
  have hlen := hlk.trans hlen
  have hsl := hsk.trans hsl
  have h80 := hN80
  have h134 := hN134
  have h137 := hN137
  change ab_W _ _ _ G1 15 [some (vR 80), some (vz s)] [] _
  refine ab_aload_n d_MO_beginAll_15 rfl ?_
  refine zz_iconst d_MO_beginAll_16 ?_
  refine ab_putf (fs := mof m_thrown m_taped m_length m_out w24 m_gathered m_sets m_ranges m_nodes m_at m_flags m_fault m_place m_numbered m_depth m_value m_isNot m_least0 m_most0 m_slot m_work m_got m_rowMany c25 cw26 m_trail m_isMatch m_matchGroups m_allFrom m_allBefore m_founds m_pieces m_writtenMany m_templateWide m_tooMuch) f_MO_573 (Or.inl rfl) d_MO_beginAll_17 h80.2.2 (Nat.le_of_ble_eq_true rfl) (fun _ => ⟨rfl, rfl⟩) (h80.2.1 (by decide)) ?_
  obtain ⟨G10, eG10⟩ : ∃ z : ab_G, z = List.set G1 80 (ab_ob 12 (mof m_thrown m_taped m_length m_out w24 m_gathered m_sets m_ranges m_nodes m_at m_flags m_fault m_place m_numbered m_depth m_value m_isNot m_least0 m_most0 m_slot m_work m_got m_rowMany c25 cw26 m_trail m_isMatch m_matchGroups 0 m_allBefore m_founds m_pieces m_writtenMany m_templateWide m_tooMuch)) := ⟨_, rfl⟩
  have h134 := h134.keep h80 eG10 (by decide)
  have h137 := h137.keep h80 eG10 (by decide)
  have h118 := h118.keep h80 eG10 (by decide)
  have h119 := h119.keep h80 eG10 (by decide)
  have h120 := h120.keep h80 eG10 (by decide)
  have h121 := h121.keep h80 eG10 (by decide)
  have h122 := h122.keep h80 eG10 (by decide)
  have h123 := h123.keep h80 eG10 (by decide)
  have h124 := h124.keep h80 eG10 (by decide)
  have h85 := h85.keep h80 eG10 (by decide)
  have h117 := h117.keep h80 eG10 (by decide)
  have h113 := h113.keep h80 eG10 (by decide)
  have hlen := (z_len eG10).trans hlen
  have hsl := (z_sl h80 eG10 rfl).trans hsl
  have hfr := hfr.wr h80 eG10 (by decide)
  have h80 := h80.kept eG10
  change ab_W _ _ _ (List.set G1 80 (ab_ob 12 (mof m_thrown m_taped m_length m_out w24 m_gathered m_sets m_ranges m_nodes m_at m_flags m_fault m_place m_numbered m_depth m_value m_isNot m_least0 m_most0 m_slot m_work m_got m_rowMany c25 cw26 m_trail m_isMatch m_matchGroups 0 m_allBefore m_founds m_pieces m_writtenMany m_templateWide m_tooMuch))) 20 [some (vR 80), some (vz s)] [] _
  rw [← eG10]
  refine ab_aload_n d_MO_beginAll_20 rfl ?_
  refine zz_iconst d_MO_beginAll_21 ?_
  refine ab_putf (fs := mof m_thrown m_taped m_length m_out w24 m_gathered m_sets m_ranges m_nodes m_at m_flags m_fault m_place m_numbered m_depth m_value m_isNot m_least0 m_most0 m_slot m_work m_got m_rowMany c25 cw26 m_trail m_isMatch m_matchGroups 0 m_allBefore m_founds m_pieces m_writtenMany m_templateWide m_tooMuch) f_MO_576 (Or.inl rfl) d_MO_beginAll_22 h80.2.2 (Nat.le_of_ble_eq_true rfl) (fun _ => ⟨rfl, rfl⟩) (h80.2.1 (by decide)) ?_
  obtain ⟨G11, eG11⟩ : ∃ z : ab_G, z = List.set G10 80 (ab_ob 12 (mof m_thrown m_taped m_length m_out w24 m_gathered m_sets m_ranges m_nodes m_at m_flags m_fault m_place m_numbered m_depth m_value m_isNot m_least0 m_most0 m_slot m_work m_got m_rowMany c25 cw26 m_trail m_isMatch m_matchGroups 0 (-1) m_founds m_pieces m_writtenMany m_templateWide m_tooMuch)) := ⟨_, rfl⟩
  have h134 := h134.keep h80 eG11 (by decide)
  have h137 := h137.keep h80 eG11 (by decide)
  have h118 := h118.keep h80 eG11 (by decide)
  have h119 := h119.keep h80 eG11 (by decide)
  have h120 := h120.keep h80 eG11 (by decide)
  have h121 := h121.keep h80 eG11 (by decide)
  have h122 := h122.keep h80 eG11 (by decide)
  have h123 := h123.keep h80 eG11 (by decide)
  have h124 := h124.keep h80 eG11 (by decide)
  have h85 := h85.keep h80 eG11 (by decide)
  have h117 := h117.keep h80 eG11 (by decide)
  have h113 := h113.keep h80 eG11 (by decide)
  have hlen := (z_len eG11).trans hlen
  have hsl := (z_sl h80 eG11 rfl).trans hsl
  have hfr := hfr.wr h80 eG11 (by decide)
  have h80 := h80.kept eG11
  change ab_W _ _ _ (List.set G10 80 (ab_ob 12 (mof m_thrown m_taped m_length m_out w24 m_gathered m_sets m_ranges m_nodes m_at m_flags m_fault m_place m_numbered m_depth m_value m_isNot m_least0 m_most0 m_slot m_work m_got m_rowMany c25 cw26 m_trail m_isMatch m_matchGroups 0 (-1) m_founds m_pieces m_writtenMany m_templateWide m_tooMuch))) 25 [some (vR 80), some (vz s)] [] _
  rw [← eG11]
  refine ab_vret rfl d_MO_beginAll_25 ?_
  rw [hQ]; exact ⟨_, _, _, _, _, rfl, hfr, hlen, hsl, h80, h134, h137, (by first | exact hq7 | exact rgs_w hq7 (by omega)), (by exact hq8), (by exact ntK_of (fun k a c => jsb k a (by omega)) jsg hq8 hq9 (by omega) (by omega))⟩
set_option maxRecDepth 100000 in
set_option maxHeartbeats 4000000 in
theorem y_MO_nextMatch_0 {X : ab_X} {d : Nat} {Q : Outcome → ab_G → Prop} {o : Nat → Nat} {G0 : ab_G} {m_thrown : Int} {m_taped : Int} {m_length : Int} {m_out : Int} {m_gathered : Int} {m_sets : Int} {m_ranges : Int} {m_nodes : Int} {m_at : Int} {m_flags : Int} {m_fault : Int} {m_place : Int} {m_numbered : Int} {m_depth : Int} {m_value : Int} {m_isNot : Int} {m_least0 : Int} {m_most0 : Int} {m_slot : Int} {m_work : Int} {m_got : Int} {m_rowMany : Int} {m_isMatch : Int} {m_matchGroups : Int} {m_allBefore : Int} {m_founds : Int} {m_pieces : Int} {m_writtenMany : Int} {m_templateWide : Int} {m_tooMuch : Int} {A_flagsOf : Int → Int} {A_step : Int → Int} {A_next : Int → Int} {A_more : Int → Int} {A_classAt : Int → Int} {A_classMany : Int → Int} {A_classLow : Int → Int} {A_classHigh : Int → Int} {A_subject : Int → Int} {A_stepMany : Int → Int} {A_entry : Int → Int} {CN : Int → Int} {s : Int} {v9 : Sn} (n18 : ab_n0 = 18) (cle : 0 ≤ m_length ∧ m_length ≤ 2000) (cs : 0 ≤ s ∧ s ≤ 5 ∧ 0 ≤ (A_stepMany s) ∧ (A_stepMany s) ≤ 12500) (jsg : sgood A_step A_next A_more A_classAt A_classMany (12500 * s) (A_stepMany s)) (jst : rgs A_step 75000 0 6) (jcl : rgs A_classLow 3600 0 1114111) (jch : rgs A_classHigh 3600 0 1114111) (jsb : rgs A_subject 2000 0 255) (cen : 0 ≤ (A_entry s) ∧ (A_entry s) < (A_stepMany s)) (cfl : 0 ≤ A_flagsOf s ∧ A_flagsOf s ≤ 31) (hnr : nrows A_step A_next A_more A_classAt A_classMany A_classLow A_classHigh A_subject CN m_length (12500 * s) (A_stepMany s) m_length 0 (0 - 1)) (hnt : ntK A_step A_next A_more A_classAt A_classMany A_classLow A_classHigh A_subject CN m_length (12500 * s) (A_stepMany s) m_length 0 0) (jps : prZ A_step A_next A_more A_classAt A_classMany A_classLow A_classHigh s (A_stepMany s) (A_entry s) v9) (hd : 9 ≤ d) : ∀ (mz : Nat) {G : ab_G} {m_wide : Int} {m_charAt : Int} {m_charWide : Int} {m_trail : Int} {m_allFrom : Int} {JU : Int → Int} {CO : Int → Int} {ZN : Int → Int} {ZS : Int → Int} {SP : Int → Int} {PL : Int → Int} {PT : Int → Int} {TS : Int → Int} {TO : Int → Int}, (cc o G 80 280 (ab_ob 12 (mof m_thrown m_taped m_length m_out m_wide m_gathered m_sets m_ranges m_nodes m_at m_flags m_fault m_place m_numbered m_depth m_value m_isNot m_least0 m_most0 m_slot m_work m_got m_rowMany m_charAt m_charWide m_trail m_isMatch m_matchGroups m_allFrom m_allBefore m_founds m_pieces m_writtenMany m_templateWide m_tooMuch))) → (cc o G 134 334 (zl 392196 CN)) → (cc o G 135 335 (zl 392196 JU)) → (cc o G 136 336 (zl 392196 CO)) → (cc o G 137 337 (zb 12500 ZN)) → (cc o G 144 344 (zb 12500 ZS)) → (cc o G 138 338 (za 20 SP)) → (cc o G 142 342 (za 25000 PL)) → (cc o G 143 343 (za 25000 PT)) → (cc o G 140 340 (za 12500 TS)) → (cc o G 141 341 (za 12500 TO)) → (cc o G 116 316 (za 6 A_flagsOf)) → (cc o G 118 318 (za 75000 A_step)) → (cc o G 119 319 (za 75000 A_next)) → (cc o G 120 320 (za 75000 A_more)) → (cc o G 121 321 (za 75000 A_classAt)) → (cc o G 122 322 (za 75000 A_classMany)) → (cc o G 123 323 (za 3600 A_classLow)) → (cc o G 124 324 (za 3600 A_classHigh)) → (cc o G 85 285 (za 2000 A_subject)) → (cc o G 117 317 (za 6 A_stepMany)) → (cc o G 113 313 (za 6 A_entry)) → (-1 ≤ m_allBefore ∧ m_allBefore ≤ m_allFrom ∧ 0 ≤ m_allFrom ∧ m_allFrom ≤ m_length + 1 ∧ m_allBefore ≤ m_length) → (nxI (wyR v9 A_subject m_length) (1 - A_flagsOf s / 16) m_length m_allBefore m_allFrom) → (rgs ZN 12500 0 1) → (rgs ZS 12500 0 1) → (rgs SP 20 (-1) 2000) → (rgs PT 25000 0 12500) → (rgs TS 12500 0 19) → (rgs TO 12500 (-1) 2000) → (fx o o [280, 335, 336, 337, 344, 338, 342, 343, 340, 341] G0 G) → (G.length = G0.length) → (ab_slots G = ab_slots G0) → (Int.toNat (m_length + 2 - m_allFrom) < mz) → (∀ (G2 : ab_G) (w2 : Int) (c2 : Int) (cw2 : Int) (t2 : Int) (JU2 : Int → Int) (CO2 : Int → Int) (ZN2 : Int → Int) (ZS2 : Int → Int) (SP2 : Int → Int) (PL2 : Int → Int) (PT2 : Int → Int) (TS2 : Int → Int) (TO2 : Int → Int) (af2 : Int) (ab2 : Int), (cc o G2 80 280 (ab_ob 12 (mof m_thrown m_taped m_length m_out w2 m_gathered m_sets m_ranges m_nodes m_at m_flags m_fault m_place m_numbered m_depth m_value m_isNot m_least0 m_most0 m_slot m_work m_got m_rowMany c2 cw2 t2 m_isMatch m_matchGroups af2 ab2 m_founds m_pieces m_writtenMany m_templateWide m_tooMuch))) → (cc o G2 135 335 (zl 392196 JU2)) → (cc o G2 136 336 (zl 392196 CO2)) → (cc o G2 137 337 (zb 12500 ZN2)) → (cc o G2 144 344 (zb 12500 ZS2)) → (cc o G2 138 338 (za 20 SP2)) → (cc o G2 142 342 (za 25000 PL2)) → (cc o G2 143 343 (za 25000 PT2)) → (cc o G2 140 340 (za 12500 TS2)) → (cc o G2 141 341 (za 12500 TO2)) → (rgs ZN2 12500 0 1) → (rgs ZS2 12500 0 1) → (rgs SP2 20 (-1) 2000) → (rgs PT2 25000 0 12500) → (rgs TS2 12500 0 19) → (rgs TO2 12500 (-1) 2000) → (m_allBefore < ab2 ∧ ab2 ≤ af2 ∧ 0 ≤ af2 ∧ af2 ≤ m_length ∧ af2 = SP2 1 ∧ ab2 = SP2 1) → (0 ≤ SP2 0 ∧ SP2 0 ≤ SP2 1 ∧ SP2 1 ≤ m_length) → (nxC v9 A_subject m_length (1 - A_flagsOf s / 16) m_allBefore 20 1 SP2) → (fx o o [280, 335, 336, 337, 344, 338, 342, 343, 340, 341] G0 G2) → (G2.length = G0.length) → (ab_slots G2 = ab_slots G0) → Q (.returned (some (vz 1))) G2) → (∀ (G2 : ab_G) (w2 : Int) (c2 : Int) (cw2 : Int) (t2 : Int) (JU2 : Int → Int) (CO2 : Int → Int) (ZN2 : Int → Int) (ZS2 : Int → Int) (SP2 : Int → Int) (PL2 : Int → Int) (PT2 : Int → Int) (TS2 : Int → Int) (TO2 : Int → Int) (af2 : Int) (ab2 : Int), (cc o G2 80 280 (ab_ob 12 (mof m_thrown m_taped m_length m_out w2 m_gathered m_sets m_ranges m_nodes m_at m_flags m_fault m_place m_numbered m_depth m_value m_isNot m_least0 m_most0 m_slot m_work m_got m_rowMany c2 cw2 t2 m_isMatch m_matchGroups af2 ab2 m_founds m_pieces m_writtenMany m_templateWide m_tooMuch))) → (cc o G2 135 335 (zl 392196 JU2)) → (cc o G2 136 336 (zl 392196 CO2)) → (cc o G2 137 337 (zb 12500 ZN2)) → (cc o G2 144 344 (zb 12500 ZS2)) → (cc o G2 138 338 (za 20 SP2)) → (cc o G2 142 342 (za 25000 PL2)) → (cc o G2 143 343 (za 25000 PT2)) → (cc o G2 140 340 (za 12500 TS2)) → (cc o G2 141 341 (za 12500 TO2)) → (rgs ZN2 12500 0 1) → (rgs ZS2 12500 0 1) → (rgs SP2 20 (-1) 2000) → (rgs PT2 25000 0 12500) → (rgs TS2 12500 0 19) → (rgs TO2 12500 (-1) 2000) → (ab2 = m_allBefore) → (nxC v9 A_subject m_length (1 - A_flagsOf s / 16) m_allBefore 20 0 SP2) → (fx o o [280, 335, 336, 337, 344, 338, 342, 343, 340, 341] G0 G2) → (G2.length = G0.length) → (ab_slots G2 = ab_slots G0) → Q (.returned (some (vz 0))) G2) → ab_W X (ab_pl y_MO_nextMatch b_MO_nextMatch 3 (some (.boolean))) d G 0 [some (vR 80), some (vz s), none] [] Q := by
  intro mz
  induction mz with
  | zero => intro G m_wide m_charAt m_charWide m_trail m_allFrom JU CO ZN ZS SP PL PT TS TO h80 h134 h135 h136 h137 h144 h138 h142 h143 h140 h141 h116 h118 h119 h120 h121 h122 h123 h124 h85 h117 h113 cab jnx jn jse jsp jpt jts jto hfr hlen hsl hm hk0 hk1; exact absurd hm (Nat.not_lt_zero _)
  | succ mz ih =>
    intro G m_wide m_charAt m_charWide m_trail m_allFrom JU CO ZN ZS SP PL PT TS TO h80 h134 h135 h136 h137 h144 h138 h142 h143 h140 h141 h116 h118 h119 h120 h121 h122 h123 h124 h85 h117 h113 cab jnx jn jse jsp jpt jts jto hfr hlen hsl hm hk0 hk1
    refine ab_aload_n d_MO_nextMatch_0 rfl ?_
    refine ab_getf (fs := mof m_thrown m_taped m_length m_out m_wide m_gathered m_sets m_ranges m_nodes m_at m_flags m_fault m_place m_numbered m_depth m_value m_isNot m_least0 m_most0 m_slot m_work m_got m_rowMany m_charAt m_charWide m_trail m_isMatch m_matchGroups m_allFrom m_allBefore m_founds m_pieces m_writtenMany m_templateWide m_tooMuch) f_MO_573 d_MO_nextMatch_1 h80.2.2 rfl ?_
    refine ab_aload_n d_MO_nextMatch_4 rfl ?_
    refine ab_getf (fs := mof m_thrown m_taped m_length m_out m_wide m_gathered m_sets m_ranges m_nodes m_at m_flags m_fault m_place m_numbered m_depth m_value m_isNot m_least0 m_most0 m_slot m_work m_got m_rowMany m_charAt m_charWide m_trail m_isMatch m_matchGroups m_allFrom m_allBefore m_founds m_pieces m_writtenMany m_templateWide m_tooMuch) f_MO_510 d_MO_nextMatch_5 h80.2.2 rfl ?_
    refine zz_icmp_gt (tgt := 102) d_MO_nextMatch_8 (by decide) (by omega) (by omega) (fun c1 => ?_) (fun c1 => ?_)
    · refine zz_iconst d_MO_nextMatch_102 ?_
      refine zz_bret rfl (by decide) d_MO_nextMatch_103 ?_
      exact hk1 _ _ _ _ _ _ _ _ _ _ _ _ _ _ _ _ h80 h135 h136 h137 h144 h138 h142 h143 h140 h141 (by first | exact jn | exact rgs_w jn (by omega)) (by first | exact jse | exact rgs_w jse (by omega)) (by first | exact jsp | exact rgs_w jsp (by omega)) (by first | exact jpt | exact rgs_w jpt (by omega)) (by first | exact jts | exact rgs_w jts (by omega)) (by first | exact jto | exact rgs_w jto (by omega)) (by omega) (by exact nxC_e jnx (by omega) (by omega) (by omega)) hfr hlen hsl
    · refine ab_aload_n d_MO_nextMatch_11 rfl ?_
      refine ab_iload_n d_MO_nextMatch_12 rfl ?_
      refine ab_aload_n d_MO_nextMatch_13 rfl ?_
      refine ab_getf (fs := mof m_thrown m_taped m_length m_out m_wide m_gathered m_sets m_ranges m_nodes m_at m_flags m_fault m_place m_numbered m_depth m_value m_isNot m_least0 m_most0 m_slot m_work m_got m_rowMany m_charAt m_charWide m_trail m_isMatch m_matchGroups m_allFrom m_allBefore m_founds m_pieces m_writtenMany m_templateWide m_tooMuch) f_MO_573 d_MO_nextMatch_14 h80.2.2 rfl ?_
      refine zz_iconst d_MO_nextMatch_17 ?_
      refine ab_callV (d' := d - 1) (as := [vz s, vz m_allFrom, vz 1]) (st := []) (r := _) (z_MO_find (o := o) (m_thrown := m_thrown) (m_taped := m_taped) (m_length := m_length) (m_out := m_out) (m_wide := m_wide) (m_gathered := m_gathered) (m_sets := m_sets) (m_ranges := m_ranges) (m_nodes := m_nodes) (m_at := m_at) (m_flags := m_flags) (m_fault := m_fault) (m_place := m_place) (m_numbered := m_numbered) (m_depth := m_depth) (m_value := m_value) (m_isNot := m_isNot) (m_least0 := m_least0) (m_most0 := m_most0) (m_slot := m_slot) (m_work := m_work) (m_got := m_got) (m_rowMany := m_rowMany) (m_charAt := m_charAt) (m_charWide := m_charWide) (m_trail := m_trail) (m_isMatch := m_isMatch) (m_matchGroups := m_matchGroups) (m_allFrom := m_allFrom) (m_allBefore := m_allBefore) (m_founds := m_founds) (m_pieces := m_pieces) (m_writtenMany := m_writtenMany) (m_templateWide := m_templateWide) (m_tooMuch := m_tooMuch) (A_flagsOf := A_flagsOf) (A_step := A_step) (A_next := A_next) (A_more := A_more) (A_classAt := A_classAt) (A_classMany := A_classMany) (A_classLow := A_classLow) (A_classHigh := A_classHigh) (A_subject := A_subject) (A_stepMany := A_stepMany) (A_entry := A_entry) (CN := CN) (JU := JU) (CO := CO) (ZN := ZN) (ZS := ZS) (SP := SP) (PL := PL) (PT := PT) (TS := TS) (TO := TO) (s := s) (fm := m_allFrom) (sr := 1) (to := 0) (v9 := v9) (hw9 := 0) h80 h134 h135 h136 h137 h144 h138 h142 h143 h140 h141 h116 h118 h119 h120 h121 h122 h123 h124 h85 h117 h113 (by omega) (by omega) (by omega) jsg jst jcl jch jsb (by omega) (by omega) (by omega) hnr hnt jps jn jse jsp jpt jts jto (by omega)) (fun oc G2 h => by rcases h with ⟨_, _, _, _, _, _, _, _, _, _, _, _, _, h, _⟩ | ⟨_, _, _, _, _, _, _, _, _, _, _, _, _, h, _⟩ <;> exact ⟨_, h⟩) (by omega) m_MO_find ml_MO_566 im_MO_find se_MO_find c_MO h80.2.2 (Nat.le_of_ble_eq_true rfl) d_MO_nextMatch_18 rfl ?_
      intro v G2 hq
      rcases hq with ⟨w23, c24, cw25, t26, JU27, CO28, ZN29, ZS210, SP211, PL212, PT213, TS214, TO215, hv, hfk, hlk, hsk, hN80, hN135, hN136, hN137, hN144, hN138, hN142, hN143, hN140, hN141, hq16, hq17, hq18, hq19, hq20, hq21, hq22, hq23⟩ | ⟨w224, c225, cw226, t227, JU228, CO229, ZN230, ZS231, SP232, PL233, PT234, TS235, TO236, hv, hfk, hlk, hsk, hN80, hN135, hN136, hN137, hN144, hN138, hN142, hN143, hN140, hN141, hq37, hq38, hq39, hq40, hq41, hq42, hq43⟩
      · cases hv
        have h134 := hfk.get h134 (by decide)
        have h116 := hfk.get h116 (by decide)
        have h118 := hfk.get h118 (by decide)
        have h119 := hfk.get h119 (by decide)
        have h120 := hfk.get h120 (by decide)
        have h121 := hfk.get h121 (by decide)
        have h122 := hfk.get h122 (by decide)
        have h123 := hfk.get h123 (by decide)
        have h124 := hfk.get h124 (by decide)
        have h85 := hfk.get h85 (by decide)
        have h117 := hfk.get h117 (by decide)
        have h113 := hfk.get h113 (by decide)
        have hfr := hfr.tr hfk (by decide)
        have hlen := hlk.trans hlen
        have hsl := hsk.trans hsl
        have h80 := hN80
        have h135 := hN135
        have h136 := hN136
        have h137 := hN137
        have h144 := hN144
        have h138 := hN138
        have h142 := hN142
        have h143 := hN143
        have h140 := hN140
        have h141 := hN141
        change ab_W _ _ _ G2 21 [some (vR 80), some (vz s), none] [vz 1] _
        refine zz_if_eq (tgt := 102) d_MO_nextMatch_21 (by decide) (by decide) (fun c44 => absurd c44 (by decide)) (fun c44 => ?_)
        refine ab_aload_n d_MO_nextMatch_24 rfl ?_
        refine ab_getf (fs := mof m_thrown m_taped m_length m_out w23 m_gathered m_sets m_ranges m_nodes m_at m_flags m_fault m_place m_numbered m_depth m_value m_isNot m_least0 m_most0 m_slot m_work m_got m_rowMany c24 cw25 t26 m_isMatch m_matchGroups m_allFrom m_allBefore m_founds m_pieces m_writtenMany m_templateWide m_tooMuch) f_MO_190 d_MO_nextMatch_25 h80.2.2 rfl ?_
        refine zz_iconst d_MO_nextMatch_28 ?_
        refine zz_iald d_MO_nextMatch_29 h138 (by omega) ?_
        refine ab_aload_n d_MO_nextMatch_30 rfl ?_
        refine ab_getf (fs := mof m_thrown m_taped m_length m_out w23 m_gathered m_sets m_ranges m_nodes m_at m_flags m_fault m_place m_numbered m_depth m_value m_isNot m_least0 m_most0 m_slot m_work m_got m_rowMany c24 cw25 t26 m_isMatch m_matchGroups m_allFrom m_allBefore m_founds m_pieces m_writtenMany m_templateWide m_tooMuch) f_MO_190 d_MO_nextMatch_31 h80.2.2 rfl ?_
        refine zz_iconst d_MO_nextMatch_34 ?_
        refine zz_iald d_MO_nextMatch_35 h138 (by omega) ?_
        refine zz_icmp_ne (tgt := 56) d_MO_nextMatch_36 (by decide) (by omega) (by omega) (fun c45 => ?_) (fun c45 => ?_)
        · refine zz_iconst d_MO_nextMatch_56 ?_
          refine ab_istore_n d_MO_nextMatch_57 (Nat.le_of_ble_eq_true rfl) (Nat.le_of_ble_eq_true rfl) rfl ?_
          change ab_W _ _ _ G2 58 [some (vR 80), some (vz s), some (vz 0)] [] _
          refine ab_aload_n d_MO_nextMatch_58 rfl ?_
          refine ab_iload_n d_MO_nextMatch_59 rfl ?_
          refine zz_if_eq (tgt := 74) d_MO_nextMatch_60 (by decide) (by decide) (fun c46 => ?_) (fun c46 => absurd c46 (by decide))
          refine ab_aload_n d_MO_nextMatch_74 rfl ?_
          refine ab_getf (fs := mof m_thrown m_taped m_length m_out w23 m_gathered m_sets m_ranges m_nodes m_at m_flags m_fault m_place m_numbered m_depth m_value m_isNot m_least0 m_most0 m_slot m_work m_got m_rowMany c24 cw25 t26 m_isMatch m_matchGroups m_allFrom m_allBefore m_founds m_pieces m_writtenMany m_templateWide m_tooMuch) f_MO_190 d_MO_nextMatch_75 h80.2.2 rfl ?_
          refine zz_iconst d_MO_nextMatch_78 ?_
          refine zz_iald d_MO_nextMatch_79 h138 (by omega) ?_
          refine ab_putf (fs := mof m_thrown m_taped m_length m_out w23 m_gathered m_sets m_ranges m_nodes m_at m_flags m_fault m_place m_numbered m_depth m_value m_isNot m_least0 m_most0 m_slot m_work m_got m_rowMany c24 cw25 t26 m_isMatch m_matchGroups m_allFrom m_allBefore m_founds m_pieces m_writtenMany m_templateWide m_tooMuch) f_MO_573 (Or.inl rfl) d_MO_nextMatch_80 h80.2.2 (Nat.le_of_ble_eq_true rfl) (fun _ => ⟨rfl, rfl⟩) (h80.2.1 (by decide)) ?_
          obtain ⟨G47, eG47⟩ : ∃ z : ab_G, z = List.set G2 80 (ab_ob 12 (mof m_thrown m_taped m_length m_out w23 m_gathered m_sets m_ranges m_nodes m_at m_flags m_fault m_place m_numbered m_depth m_value m_isNot m_least0 m_most0 m_slot m_work m_got m_rowMany c24 cw25 t26 m_isMatch m_matchGroups (SP211 1) m_allBefore m_founds m_pieces m_writtenMany m_templateWide m_tooMuch)) := ⟨_, rfl⟩
          have h134 := h134.keep h80 eG47 (by decide)
          have h135 := h135.keep h80 eG47 (by decide)
          have h136 := h136.keep h80 eG47 (by decide)
          have h137 := h137.keep h80 eG47 (by decide)
          have h144 := h144.keep h80 eG47 (by decide)
          have h138 := h138.keep h80 eG47 (by decide)
          have h142 := h142.keep h80 eG47 (by decide)
          have h143 := h143.keep h80 eG47 (by decide)
          have h140 := h140.keep h80 eG47 (by decide)
          have h141 := h141.keep h80 eG47 (by decide)
          have h116 := h116.keep h80 eG47 (by decide)
          have h118 := h118.keep h80 eG47 (by decide)
          have h119 := h119.keep h80 eG47 (by decide)
          have h120 := h120.keep h80 eG47 (by decide)
          have h121 := h121.keep h80 eG47 (by decide)
          have h122 := h122.keep h80 eG47 (by decide)
          have h123 := h123.keep h80 eG47 (by decide)
          have h124 := h124.keep h80 eG47 (by decide)
          have h85 := h85.keep h80 eG47 (by decide)
          have h117 := h117.keep h80 eG47 (by decide)
          have h113 := h113.keep h80 eG47 (by decide)
          have hlen := (z_len eG47).trans hlen
          have hsl := (z_sl h80 eG47 rfl).trans hsl
          have hfr := hfr.wr h80 eG47 (by decide)
          have h80 := h80.kept eG47
          change ab_W _ _ _ (List.set G2 80 (ab_ob 12 (mof m_thrown m_taped m_length m_out w23 m_gathered m_sets m_ranges m_nodes m_at m_flags m_fault m_place m_numbered m_depth m_value m_isNot m_least0 m_most0 m_slot m_work m_got m_rowMany c24 cw25 t26 m_isMatch m_matchGroups (SP211 1) m_allBefore m_founds m_pieces m_writtenMany m_templateWide m_tooMuch))) 83 [some (vR 80), some (vz s), some (vz 0)] [] _
          rw [← eG47]
          refine ab_iload_n d_MO_nextMatch_83 rfl ?_
          refine zz_if_eq (tgt := 90) d_MO_nextMatch_84 (by decide) (by decide) (fun c48 => ?_) (fun c48 => absurd c48 (by decide))
          refine ab_aload_n d_MO_nextMatch_90 rfl ?_
          refine ab_aload_n d_MO_nextMatch_91 rfl ?_
          refine ab_getf (fs := mof m_thrown m_taped m_length m_out w23 m_gathered m_sets m_ranges m_nodes m_at m_flags m_fault m_place m_numbered m_depth m_value m_isNot m_least0 m_most0 m_slot m_work m_got m_rowMany c24 cw25 t26 m_isMatch m_matchGroups (SP211 1) m_allBefore m_founds m_pieces m_writtenMany m_templateWide m_tooMuch) f_MO_190 d_MO_nextMatch_92 h80.2.2 rfl ?_
          refine zz_iconst d_MO_nextMatch_95 ?_
          refine zz_iald d_MO_nextMatch_96 h138 (by omega) ?_
          refine ab_putf (fs := mof m_thrown m_taped m_length m_out w23 m_gathered m_sets m_ranges m_nodes m_at m_flags m_fault m_place m_numbered m_depth m_value m_isNot m_least0 m_most0 m_slot m_work m_got m_rowMany c24 cw25 t26 m_isMatch m_matchGroups (SP211 1) m_allBefore m_founds m_pieces m_writtenMany m_templateWide m_tooMuch) f_MO_576 (Or.inl rfl) d_MO_nextMatch_97 h80.2.2 (Nat.le_of_ble_eq_true rfl) (fun _ => ⟨rfl, rfl⟩) (h80.2.1 (by decide)) ?_
          obtain ⟨G49, eG49⟩ : ∃ z : ab_G, z = List.set G47 80 (ab_ob 12 (mof m_thrown m_taped m_length m_out w23 m_gathered m_sets m_ranges m_nodes m_at m_flags m_fault m_place m_numbered m_depth m_value m_isNot m_least0 m_most0 m_slot m_work m_got m_rowMany c24 cw25 t26 m_isMatch m_matchGroups (SP211 1) (SP211 1) m_founds m_pieces m_writtenMany m_templateWide m_tooMuch)) := ⟨_, rfl⟩
          have h134 := h134.keep h80 eG49 (by decide)
          have h135 := h135.keep h80 eG49 (by decide)
          have h136 := h136.keep h80 eG49 (by decide)
          have h137 := h137.keep h80 eG49 (by decide)
          have h144 := h144.keep h80 eG49 (by decide)
          have h138 := h138.keep h80 eG49 (by decide)
          have h142 := h142.keep h80 eG49 (by decide)
          have h143 := h143.keep h80 eG49 (by decide)
          have h140 := h140.keep h80 eG49 (by decide)
          have h141 := h141.keep h80 eG49 (by decide)
          have h116 := h116.keep h80 eG49 (by decide)
          have h118 := h118.keep h80 eG49 (by decide)
          have h119 := h119.keep h80 eG49 (by decide)
          have h120 := h120.keep h80 eG49 (by decide)
          have h121 := h121.keep h80 eG49 (by decide)
          have h122 := h122.keep h80 eG49 (by decide)
          have h123 := h123.keep h80 eG49 (by decide)
          have h124 := h124.keep h80 eG49 (by decide)
          have h85 := h85.keep h80 eG49 (by decide)
          have h117 := h117.keep h80 eG49 (by decide)
          have h113 := h113.keep h80 eG49 (by decide)
          have hlen := (z_len eG49).trans hlen
          have hsl := (z_sl h80 eG49 rfl).trans hsl
          have hfr := hfr.wr h80 eG49 (by decide)
          have h80 := h80.kept eG49
          change ab_W _ _ _ (List.set G47 80 (ab_ob 12 (mof m_thrown m_taped m_length m_out w23 m_gathered m_sets m_ranges m_nodes m_at m_flags m_fault m_place m_numbered m_depth m_value m_isNot m_least0 m_most0 m_slot m_work m_got m_rowMany c24 cw25 t26 m_isMatch m_matchGroups (SP211 1) (SP211 1) m_founds m_pieces m_writtenMany m_templateWide m_tooMuch))) 100 [some (vR 80), some (vz s), some (vz 0)] [] _
          rw [← eG49]
          refine zz_iconst d_MO_nextMatch_100 ?_
          refine zz_bret rfl (by decide) d_MO_nextMatch_101 ?_
          exact hk0 _ _ _ _ _ _ _ _ _ _ _ _ _ _ _ _ h80 h135 h136 h137 h144 h138 h142 h143 h140 h141 (by first | exact hq16 | exact rgs_w hq16 (by omega)) (by first | exact hq17 | exact rgs_w hq17 (by omega)) (by first | exact hq18 | exact rgs_w hq18 (by omega)) (by first | exact hq19 | exact rgs_w hq19 (by omega)) (by first | exact hq20 | exact rgs_w hq20 (by omega)) (by first | exact hq21 | exact rgs_w hq21 (by omega)) (by omega) (by omega) (by exact nxC_y jnx hq23 rfl (by omega) (fun h => by omega)) hfr hlen hsl
        · refine ab_aload_n d_MO_nextMatch_39 rfl ?_
          refine ab_getf (fs := mof m_thrown m_taped m_length m_out w23 m_gathered m_sets m_ranges m_nodes m_at m_flags m_fault m_place m_numbered m_depth m_value m_isNot m_least0 m_most0 m_slot m_work m_got m_rowMany c24 cw25 t26 m_isMatch m_matchGroups m_allFrom m_allBefore m_founds m_pieces m_writtenMany m_templateWide m_tooMuch) f_MO_190 d_MO_nextMatch_40 h80.2.2 rfl ?_
          refine zz_iconst d_MO_nextMatch_43 ?_
          refine zz_iald d_MO_nextMatch_44 h138 (by omega) ?_
          refine ab_aload_n d_MO_nextMatch_45 rfl ?_
          refine ab_getf (fs := mof m_thrown m_taped m_length m_out w23 m_gathered m_sets m_ranges m_nodes m_at m_flags m_fault m_place m_numbered m_depth m_value m_isNot m_least0 m_most0 m_slot m_work m_got m_rowMany c24 cw25 t26 m_isMatch m_matchGroups m_allFrom m_allBefore m_founds m_pieces m_writtenMany m_templateWide m_tooMuch) f_MO_576 d_MO_nextMatch_46 h80.2.2 rfl ?_
          refine zz_icmp_ne (tgt := 56) d_MO_nextMatch_49 (by decide) (by omega) (by omega) (fun c50 => ?_) (fun c50 => ?_)
          · refine zz_iconst d_MO_nextMatch_56 ?_
            refine ab_istore_n d_MO_nextMatch_57 (Nat.le_of_ble_eq_true rfl) (Nat.le_of_ble_eq_true rfl) rfl ?_
            change ab_W _ _ _ G2 58 [some (vR 80), some (vz s), some (vz 0)] [] _
            refine ab_aload_n d_MO_nextMatch_58 rfl ?_
            refine ab_iload_n d_MO_nextMatch_59 rfl ?_
            refine zz_if_eq (tgt := 74) d_MO_nextMatch_60 (by decide) (by decide) (fun c51 => ?_) (fun c51 => absurd c51 (by decide))
            refine ab_aload_n d_MO_nextMatch_74 rfl ?_
            refine ab_getf (fs := mof m_thrown m_taped m_length m_out w23 m_gathered m_sets m_ranges m_nodes m_at m_flags m_fault m_place m_numbered m_depth m_value m_isNot m_least0 m_most0 m_slot m_work m_got m_rowMany c24 cw25 t26 m_isMatch m_matchGroups m_allFrom m_allBefore m_founds m_pieces m_writtenMany m_templateWide m_tooMuch) f_MO_190 d_MO_nextMatch_75 h80.2.2 rfl ?_
            refine zz_iconst d_MO_nextMatch_78 ?_
            refine zz_iald d_MO_nextMatch_79 h138 (by omega) ?_
            refine ab_putf (fs := mof m_thrown m_taped m_length m_out w23 m_gathered m_sets m_ranges m_nodes m_at m_flags m_fault m_place m_numbered m_depth m_value m_isNot m_least0 m_most0 m_slot m_work m_got m_rowMany c24 cw25 t26 m_isMatch m_matchGroups m_allFrom m_allBefore m_founds m_pieces m_writtenMany m_templateWide m_tooMuch) f_MO_573 (Or.inl rfl) d_MO_nextMatch_80 h80.2.2 (Nat.le_of_ble_eq_true rfl) (fun _ => ⟨rfl, rfl⟩) (h80.2.1 (by decide)) ?_
            obtain ⟨G52, eG52⟩ : ∃ z : ab_G, z = List.set G2 80 (ab_ob 12 (mof m_thrown m_taped m_length m_out w23 m_gathered m_sets m_ranges m_nodes m_at m_flags m_fault m_place m_numbered m_depth m_value m_isNot m_least0 m_most0 m_slot m_work m_got m_rowMany c24 cw25 t26 m_isMatch m_matchGroups (SP211 1) m_allBefore m_founds m_pieces m_writtenMany m_templateWide m_tooMuch)) := ⟨_, rfl⟩
            have h134 := h134.keep h80 eG52 (by decide)
            have h135 := h135.keep h80 eG52 (by decide)
            have h136 := h136.keep h80 eG52 (by decide)
            have h137 := h137.keep h80 eG52 (by decide)
            have h144 := h144.keep h80 eG52 (by decide)
            have h138 := h138.keep h80 eG52 (by decide)
            have h142 := h142.keep h80 eG52 (by decide)
            have h143 := h143.keep h80 eG52 (by decide)
            have h140 := h140.keep h80 eG52 (by decide)
            have h141 := h141.keep h80 eG52 (by decide)
            have h116 := h116.keep h80 eG52 (by decide)
            have h118 := h118.keep h80 eG52 (by decide)
            have h119 := h119.keep h80 eG52 (by decide)
            have h120 := h120.keep h80 eG52 (by decide)
            have h121 := h121.keep h80 eG52 (by decide)
            have h122 := h122.keep h80 eG52 (by decide)
            have h123 := h123.keep h80 eG52 (by decide)
            have h124 := h124.keep h80 eG52 (by decide)
            have h85 := h85.keep h80 eG52 (by decide)
            have h117 := h117.keep h80 eG52 (by decide)
            have h113 := h113.keep h80 eG52 (by decide)
            have hlen := (z_len eG52).trans hlen
            have hsl := (z_sl h80 eG52 rfl).trans hsl
            have hfr := hfr.wr h80 eG52 (by decide)
            have h80 := h80.kept eG52
            change ab_W _ _ _ (List.set G2 80 (ab_ob 12 (mof m_thrown m_taped m_length m_out w23 m_gathered m_sets m_ranges m_nodes m_at m_flags m_fault m_place m_numbered m_depth m_value m_isNot m_least0 m_most0 m_slot m_work m_got m_rowMany c24 cw25 t26 m_isMatch m_matchGroups (SP211 1) m_allBefore m_founds m_pieces m_writtenMany m_templateWide m_tooMuch))) 83 [some (vR 80), some (vz s), some (vz 0)] [] _
            rw [← eG52]
            refine ab_iload_n d_MO_nextMatch_83 rfl ?_
            refine zz_if_eq (tgt := 90) d_MO_nextMatch_84 (by decide) (by decide) (fun c53 => ?_) (fun c53 => absurd c53 (by decide))
            refine ab_aload_n d_MO_nextMatch_90 rfl ?_
            refine ab_aload_n d_MO_nextMatch_91 rfl ?_
            refine ab_getf (fs := mof m_thrown m_taped m_length m_out w23 m_gathered m_sets m_ranges m_nodes m_at m_flags m_fault m_place m_numbered m_depth m_value m_isNot m_least0 m_most0 m_slot m_work m_got m_rowMany c24 cw25 t26 m_isMatch m_matchGroups (SP211 1) m_allBefore m_founds m_pieces m_writtenMany m_templateWide m_tooMuch) f_MO_190 d_MO_nextMatch_92 h80.2.2 rfl ?_
            refine zz_iconst d_MO_nextMatch_95 ?_
            refine zz_iald d_MO_nextMatch_96 h138 (by omega) ?_
            refine ab_putf (fs := mof m_thrown m_taped m_length m_out w23 m_gathered m_sets m_ranges m_nodes m_at m_flags m_fault m_place m_numbered m_depth m_value m_isNot m_least0 m_most0 m_slot m_work m_got m_rowMany c24 cw25 t26 m_isMatch m_matchGroups (SP211 1) m_allBefore m_founds m_pieces m_writtenMany m_templateWide m_tooMuch) f_MO_576 (Or.inl rfl) d_MO_nextMatch_97 h80.2.2 (Nat.le_of_ble_eq_true rfl) (fun _ => ⟨rfl, rfl⟩) (h80.2.1 (by decide)) ?_
            obtain ⟨G54, eG54⟩ : ∃ z : ab_G, z = List.set G52 80 (ab_ob 12 (mof m_thrown m_taped m_length m_out w23 m_gathered m_sets m_ranges m_nodes m_at m_flags m_fault m_place m_numbered m_depth m_value m_isNot m_least0 m_most0 m_slot m_work m_got m_rowMany c24 cw25 t26 m_isMatch m_matchGroups (SP211 1) (SP211 1) m_founds m_pieces m_writtenMany m_templateWide m_tooMuch)) := ⟨_, rfl⟩
            have h134 := h134.keep h80 eG54 (by decide)
            have h135 := h135.keep h80 eG54 (by decide)
            have h136 := h136.keep h80 eG54 (by decide)
            have h137 := h137.keep h80 eG54 (by decide)
            have h144 := h144.keep h80 eG54 (by decide)
            have h138 := h138.keep h80 eG54 (by decide)
            have h142 := h142.keep h80 eG54 (by decide)
            have h143 := h143.keep h80 eG54 (by decide)
            have h140 := h140.keep h80 eG54 (by decide)
            have h141 := h141.keep h80 eG54 (by decide)
            have h116 := h116.keep h80 eG54 (by decide)
            have h118 := h118.keep h80 eG54 (by decide)
            have h119 := h119.keep h80 eG54 (by decide)
            have h120 := h120.keep h80 eG54 (by decide)
            have h121 := h121.keep h80 eG54 (by decide)
            have h122 := h122.keep h80 eG54 (by decide)
            have h123 := h123.keep h80 eG54 (by decide)
            have h124 := h124.keep h80 eG54 (by decide)
            have h85 := h85.keep h80 eG54 (by decide)
            have h117 := h117.keep h80 eG54 (by decide)
            have h113 := h113.keep h80 eG54 (by decide)
            have hlen := (z_len eG54).trans hlen
            have hsl := (z_sl h80 eG54 rfl).trans hsl
            have hfr := hfr.wr h80 eG54 (by decide)
            have h80 := h80.kept eG54
            change ab_W _ _ _ (List.set G52 80 (ab_ob 12 (mof m_thrown m_taped m_length m_out w23 m_gathered m_sets m_ranges m_nodes m_at m_flags m_fault m_place m_numbered m_depth m_value m_isNot m_least0 m_most0 m_slot m_work m_got m_rowMany c24 cw25 t26 m_isMatch m_matchGroups (SP211 1) (SP211 1) m_founds m_pieces m_writtenMany m_templateWide m_tooMuch))) 100 [some (vR 80), some (vz s), some (vz 0)] [] _
            rw [← eG54]
            refine zz_iconst d_MO_nextMatch_100 ?_
            refine zz_bret rfl (by decide) d_MO_nextMatch_101 ?_
            exact hk0 _ _ _ _ _ _ _ _ _ _ _ _ _ _ _ _ h80 h135 h136 h137 h144 h138 h142 h143 h140 h141 (by first | exact hq16 | exact rgs_w hq16 (by omega)) (by first | exact hq17 | exact rgs_w hq17 (by omega)) (by first | exact hq18 | exact rgs_w hq18 (by omega)) (by first | exact hq19 | exact rgs_w hq19 (by omega)) (by first | exact hq20 | exact rgs_w hq20 (by omega)) (by first | exact hq21 | exact rgs_w hq21 (by omega)) (by omega) (by omega) (by exact nxC_y jnx hq23 rfl (by omega) (fun h => by omega)) hfr hlen hsl
          · refine zz_iconst d_MO_nextMatch_52 ?_
            refine ab_goto (tgt := 57) d_MO_nextMatch_53 (by decide) ?_
            refine ab_istore_n d_MO_nextMatch_57 (Nat.le_of_ble_eq_true rfl) (Nat.le_of_ble_eq_true rfl) rfl ?_
            change ab_W _ _ _ G2 58 [some (vR 80), some (vz s), some (vz 1)] [] _
            refine ab_aload_n d_MO_nextMatch_58 rfl ?_
            refine ab_iload_n d_MO_nextMatch_59 rfl ?_
            refine zz_if_eq (tgt := 74) d_MO_nextMatch_60 (by decide) (by decide) (fun c55 => absurd c55 (by decide)) (fun c55 => ?_)
            refine ab_aload_n d_MO_nextMatch_63 rfl ?_
            refine ab_getf (fs := mof m_thrown m_taped m_length m_out w23 m_gathered m_sets m_ranges m_nodes m_at m_flags m_fault m_place m_numbered m_depth m_value m_isNot m_least0 m_most0 m_slot m_work m_got m_rowMany c24 cw25 t26 m_isMatch m_matchGroups m_allFrom m_allBefore m_founds m_pieces m_writtenMany m_templateWide m_tooMuch) f_MO_190 d_MO_nextMatch_64 h80.2.2 rfl ?_
            refine zz_iconst d_MO_nextMatch_67 ?_
            refine zz_iald d_MO_nextMatch_68 h138 (by omega) ?_
            refine zz_iconst d_MO_nextMatch_69 ?_
            refine zz_iadd d_MO_nextMatch_70 ?_
            refine ab_goto (tgt := 80) d_MO_nextMatch_71 (by decide) ?_
            refine ab_putf (fs := mof m_thrown m_taped m_length m_out w23 m_gathered m_sets m_ranges m_nodes m_at m_flags m_fault m_place m_numbered m_depth m_value m_isNot m_least0 m_most0 m_slot m_work m_got m_rowMany c24 cw25 t26 m_isMatch m_matchGroups m_allFrom m_allBefore m_founds m_pieces m_writtenMany m_templateWide m_tooMuch) f_MO_573 (Or.inl rfl) d_MO_nextMatch_80 h80.2.2 (Nat.le_of_ble_eq_true rfl) (fun _ => ⟨rfl, rfl⟩) (h80.2.1 (by decide)) ?_
            obtain ⟨G56, eG56⟩ : ∃ z : ab_G, z = List.set G2 80 (ab_ob 12 (mof m_thrown m_taped m_length m_out w23 m_gathered m_sets m_ranges m_nodes m_at m_flags m_fault m_place m_numbered m_depth m_value m_isNot m_least0 m_most0 m_slot m_work m_got m_rowMany c24 cw25 t26 m_isMatch m_matchGroups ((SP211 0) + 1) m_allBefore m_founds m_pieces m_writtenMany m_templateWide m_tooMuch)) := ⟨_, rfl⟩
            have h134 := h134.keep h80 eG56 (by decide)
            have h135 := h135.keep h80 eG56 (by decide)
            have h136 := h136.keep h80 eG56 (by decide)
            have h137 := h137.keep h80 eG56 (by decide)
            have h144 := h144.keep h80 eG56 (by decide)
            have h138 := h138.keep h80 eG56 (by decide)
            have h142 := h142.keep h80 eG56 (by decide)
            have h143 := h143.keep h80 eG56 (by decide)
            have h140 := h140.keep h80 eG56 (by decide)
            have h141 := h141.keep h80 eG56 (by decide)
            have h116 := h116.keep h80 eG56 (by decide)
            have h118 := h118.keep h80 eG56 (by decide)
            have h119 := h119.keep h80 eG56 (by decide)
            have h120 := h120.keep h80 eG56 (by decide)
            have h121 := h121.keep h80 eG56 (by decide)
            have h122 := h122.keep h80 eG56 (by decide)
            have h123 := h123.keep h80 eG56 (by decide)
            have h124 := h124.keep h80 eG56 (by decide)
            have h85 := h85.keep h80 eG56 (by decide)
            have h117 := h117.keep h80 eG56 (by decide)
            have h113 := h113.keep h80 eG56 (by decide)
            have hlen := (z_len eG56).trans hlen
            have hsl := (z_sl h80 eG56 rfl).trans hsl
            have hfr := hfr.wr h80 eG56 (by decide)
            have h80 := h80.kept eG56
            change ab_W _ _ _ (List.set G2 80 (ab_ob 12 (mof m_thrown m_taped m_length m_out w23 m_gathered m_sets m_ranges m_nodes m_at m_flags m_fault m_place m_numbered m_depth m_value m_isNot m_least0 m_most0 m_slot m_work m_got m_rowMany c24 cw25 t26 m_isMatch m_matchGroups ((SP211 0) + 1) m_allBefore m_founds m_pieces m_writtenMany m_templateWide m_tooMuch))) 83 [some (vR 80), some (vz s), some (vz 1)] [] _
            rw [← eG56]
            refine ab_iload_n d_MO_nextMatch_83 rfl ?_
            refine zz_if_eq (tgt := 90) d_MO_nextMatch_84 (by decide) (by decide) (fun c57 => absurd c57 (by decide)) (fun c57 => ?_)
            refine ab_goto (tgt := 0) d_MO_nextMatch_87 (by decide) ?_
            refine ab_less (L' := [some (vR 80), some (vz s), none]) (fun i v h => by rcases i with _ | _ | _ | i <;> first | exact h | (simp at h)) ?_
            exact ih (m_wide := w23) (m_charAt := c24) (m_charWide := cw25) (m_trail := t26) (m_allFrom := ((SP211 0) + 1)) (JU := JU27) (CO := CO28) (ZN := ZN29) (ZS := ZS210) (SP := SP211) (PL := PL212) (PT := PT213) (TS := TS214) (TO := TO215) h80 h134 h135 h136 h137 h144 h138 h142 h143 h140 h141 h116 h118 h119 h120 h121 h122 h123 h124 h85 h117 h113 (by omega) (nxI_s jnx hq23 rfl (by omega) (by omega) (by omega)) hq16 hq17 hq18 hq19 hq20 hq21 hfr hlen hsl (by omega) hk0 hk1
      · cases hv
        have h134 := hfk.get h134 (by decide)
        have h116 := hfk.get h116 (by decide)
        have h118 := hfk.get h118 (by decide)
        have h119 := hfk.get h119 (by decide)
        have h120 := hfk.get h120 (by decide)
        have h121 := hfk.get h121 (by decide)
        have h122 := hfk.get h122 (by decide)
        have h123 := hfk.get h123 (by decide)
        have h124 := hfk.get h124 (by decide)
        have h85 := hfk.get h85 (by decide)
        have h117 := hfk.get h117 (by decide)
        have h113 := hfk.get h113 (by decide)
        have hfr := hfr.tr hfk (by decide)
        have hlen := hlk.trans hlen
        have hsl := hsk.trans hsl
        have h80 := hN80
        have h135 := hN135
        have h136 := hN136
        have h137 := hN137
        have h144 := hN144
        have h138 := hN138
        have h142 := hN142
        have h143 := hN143
        have h140 := hN140
        have h141 := hN141
        change ab_W _ _ _ G2 21 [some (vR 80), some (vz s), none] [vz 0] _
        refine zz_if_eq (tgt := 102) d_MO_nextMatch_21 (by decide) (by decide) (fun c58 => ?_) (fun c58 => absurd c58 (by decide))
        refine zz_iconst d_MO_nextMatch_102 ?_
        refine zz_bret rfl (by decide) d_MO_nextMatch_103 ?_
        exact hk1 _ _ _ _ _ _ _ _ _ _ _ _ _ _ _ _ h80 h135 h136 h137 h144 h138 h142 h143 h140 h141 (by first | exact hq37 | exact rgs_w hq37 (by omega)) (by first | exact hq38 | exact rgs_w hq38 (by omega)) (by first | exact hq39 | exact rgs_w hq39 (by omega)) (by first | exact hq40 | exact rgs_w hq40 (by omega)) (by first | exact hq41 | exact rgs_w hq41 (by omega)) (by first | exact hq42 | exact rgs_w hq42 (by omega)) (by omega) (by exact nxC_n jnx hq43 rfl (by omega)) hfr hlen hsl
set_option maxRecDepth 100000 in
set_option maxHeartbeats 4000000 in
theorem z_MO_nextMatch {X : ab_X} {d : Nat} {o : Nat → Nat} {G : ab_G} {m_thrown : Int} {m_taped : Int} {m_length : Int} {m_out : Int} {m_wide : Int} {m_gathered : Int} {m_sets : Int} {m_ranges : Int} {m_nodes : Int} {m_at : Int} {m_flags : Int} {m_fault : Int} {m_place : Int} {m_numbered : Int} {m_depth : Int} {m_value : Int} {m_isNot : Int} {m_least0 : Int} {m_most0 : Int} {m_slot : Int} {m_work : Int} {m_got : Int} {m_rowMany : Int} {m_charAt : Int} {m_charWide : Int} {m_trail : Int} {m_isMatch : Int} {m_matchGroups : Int} {m_allFrom : Int} {m_allBefore : Int} {m_founds : Int} {m_pieces : Int} {m_writtenMany : Int} {m_templateWide : Int} {m_tooMuch : Int} {A_flagsOf : Int → Int} {A_step : Int → Int} {A_next : Int → Int} {A_more : Int → Int} {A_classAt : Int → Int} {A_classMany : Int → Int} {A_classLow : Int → Int} {A_classHigh : Int → Int} {A_subject : Int → Int} {A_stepMany : Int → Int} {A_entry : Int → Int} {CN : Int → Int} {JU : Int → Int} {CO : Int → Int} {ZN : Int → Int} {ZS : Int → Int} {SP : Int → Int} {PL : Int → Int} {PT : Int → Int} {TS : Int → Int} {TO : Int → Int} {s : Int} {v9 : Sn} (h80 : cc o G 80 280 (ab_ob 12 (mof m_thrown m_taped m_length m_out m_wide m_gathered m_sets m_ranges m_nodes m_at m_flags m_fault m_place m_numbered m_depth m_value m_isNot m_least0 m_most0 m_slot m_work m_got m_rowMany m_charAt m_charWide m_trail m_isMatch m_matchGroups m_allFrom m_allBefore m_founds m_pieces m_writtenMany m_templateWide m_tooMuch))) (h134 : cc o G 134 334 (zl 392196 CN)) (h135 : cc o G 135 335 (zl 392196 JU)) (h136 : cc o G 136 336 (zl 392196 CO)) (h137 : cc o G 137 337 (zb 12500 ZN)) (h144 : cc o G 144 344 (zb 12500 ZS)) (h138 : cc o G 138 338 (za 20 SP)) (h142 : cc o G 142 342 (za 25000 PL)) (h143 : cc o G 143 343 (za 25000 PT)) (h140 : cc o G 140 340 (za 12500 TS)) (h141 : cc o G 141 341 (za 12500 TO)) (h116 : cc o G 116 316 (za 6 A_flagsOf)) (h118 : cc o G 118 318 (za 75000 A_step)) (h119 : cc o G 119 319 (za 75000 A_next)) (h120 : cc o G 120 320 (za 75000 A_more)) (h121 : cc o G 121 321 (za 75000 A_classAt)) (h122 : cc o G 122 322 (za 75000 A_classMany)) (h123 : cc o G 123 323 (za 3600 A_classLow)) (h124 : cc o G 124 324 (za 3600 A_classHigh)) (h85 : cc o G 85 285 (za 2000 A_subject)) (h117 : cc o G 117 317 (za 6 A_stepMany)) (h113 : cc o G 113 313 (za 6 A_entry)) (n18 : ab_n0 = 18) (cle : 0 ≤ m_length ∧ m_length ≤ 2000) (cs : 0 ≤ s ∧ s ≤ 5 ∧ 0 ≤ (A_stepMany s) ∧ (A_stepMany s) ≤ 12500) (jsg : sgood A_step A_next A_more A_classAt A_classMany (12500 * s) (A_stepMany s)) (jst : rgs A_step 75000 0 6) (jcl : rgs A_classLow 3600 0 1114111) (jch : rgs A_classHigh 3600 0 1114111) (jsb : rgs A_subject 2000 0 255) (cen : 0 ≤ (A_entry s) ∧ (A_entry s) < (A_stepMany s)) (cfl : 0 ≤ A_flagsOf s ∧ A_flagsOf s ≤ 31) (hnr : nrows A_step A_next A_more A_classAt A_classMany A_classLow A_classHigh A_subject CN m_length (12500 * s) (A_stepMany s) m_length 0 (0 - 1)) (hnt : ntK A_step A_next A_more A_classAt A_classMany A_classLow A_classHigh A_subject CN m_length (12500 * s) (A_stepMany s) m_length 0 0) (jps : prZ A_step A_next A_more A_classAt A_classMany A_classLow A_classHigh s (A_stepMany s) (A_entry s) v9) (cab : -1 ≤ m_allBefore ∧ m_allBefore ≤ m_allFrom ∧ 0 ≤ m_allFrom ∧ m_allFrom ≤ m_length + 1 ∧ m_allBefore ≤ m_length) (cmx : mxA m_allFrom m_allBefore) (jn : rgs ZN 12500 0 1) (jse : rgs ZS 12500 0 1) (jsp : rgs SP 20 (-1) 2000) (jpt : rgs PT 25000 0 12500) (jts : rgs TS 12500 0 19) (jto : rgs TO 12500 (-1) 2000) (hd : 9 ≤ d) : ab_F X d y_MO_nextMatch (.code y_MO_nextMatch b_MO_nextMatch 3 (some (.boolean))) [vR 80, vz s] G (fun oc G2 => (∃ w2 : Int, ∃ c2 : Int, ∃ cw2 : Int, ∃ t2 : Int, ∃ JU2 : Int → Int, ∃ CO2 : Int → Int, ∃ ZN2 : Int → Int, ∃ ZS2 : Int → Int, ∃ SP2 : Int → Int, ∃ PL2 : Int → Int, ∃ PT2 : Int → Int, ∃ TS2 : Int → Int, ∃ TO2 : Int → Int, ∃ af2 : Int, ∃ ab2 : Int, oc = .returned (some (vz 1)) ∧ fx o o [280, 335, 336, 337, 344, 338, 342, 343, 340, 341] G G2 ∧ G2.length = G.length ∧ ab_slots G2 = ab_slots G ∧ cc o G2 80 280 (ab_ob 12 (mof m_thrown m_taped m_length m_out w2 m_gathered m_sets m_ranges m_nodes m_at m_flags m_fault m_place m_numbered m_depth m_value m_isNot m_least0 m_most0 m_slot m_work m_got m_rowMany c2 cw2 t2 m_isMatch m_matchGroups af2 ab2 m_founds m_pieces m_writtenMany m_templateWide m_tooMuch)) ∧ cc o G2 135 335 (zl 392196 JU2) ∧ cc o G2 136 336 (zl 392196 CO2) ∧ cc o G2 137 337 (zb 12500 ZN2) ∧ cc o G2 144 344 (zb 12500 ZS2) ∧ cc o G2 138 338 (za 20 SP2) ∧ cc o G2 142 342 (za 25000 PL2) ∧ cc o G2 143 343 (za 25000 PT2) ∧ cc o G2 140 340 (za 12500 TS2) ∧ cc o G2 141 341 (za 12500 TO2) ∧ (rgs ZN2 12500 0 1) ∧ (rgs ZS2 12500 0 1) ∧ (rgs SP2 20 (-1) 2000) ∧ (rgs PT2 25000 0 12500) ∧ (rgs TS2 12500 0 19) ∧ (rgs TO2 12500 (-1) 2000) ∧ (m_allBefore < ab2 ∧ ab2 ≤ af2 ∧ 0 ≤ af2 ∧ af2 ≤ m_length ∧ af2 = SP2 1 ∧ ab2 = SP2 1) ∧ (0 ≤ SP2 0 ∧ SP2 0 ≤ SP2 1 ∧ SP2 1 ≤ m_length) ∧ (nxC v9 A_subject m_length (1 - A_flagsOf s / 16) m_allBefore 20 1 SP2)) ∨ (∃ w2 : Int, ∃ c2 : Int, ∃ cw2 : Int, ∃ t2 : Int, ∃ JU2 : Int → Int, ∃ CO2 : Int → Int, ∃ ZN2 : Int → Int, ∃ ZS2 : Int → Int, ∃ SP2 : Int → Int, ∃ PL2 : Int → Int, ∃ PT2 : Int → Int, ∃ TS2 : Int → Int, ∃ TO2 : Int → Int, ∃ af2 : Int, ∃ ab2 : Int, oc = .returned (some (vz 0)) ∧ fx o o [280, 335, 336, 337, 344, 338, 342, 343, 340, 341] G G2 ∧ G2.length = G.length ∧ ab_slots G2 = ab_slots G ∧ cc o G2 80 280 (ab_ob 12 (mof m_thrown m_taped m_length m_out w2 m_gathered m_sets m_ranges m_nodes m_at m_flags m_fault m_place m_numbered m_depth m_value m_isNot m_least0 m_most0 m_slot m_work m_got m_rowMany c2 cw2 t2 m_isMatch m_matchGroups af2 ab2 m_founds m_pieces m_writtenMany m_templateWide m_tooMuch)) ∧ cc o G2 135 335 (zl 392196 JU2) ∧ cc o G2 136 336 (zl 392196 CO2) ∧ cc o G2 137 337 (zb 12500 ZN2) ∧ cc o G2 144 344 (zb 12500 ZS2) ∧ cc o G2 138 338 (za 20 SP2) ∧ cc o G2 142 342 (za 25000 PL2) ∧ cc o G2 143 343 (za 25000 PT2) ∧ cc o G2 140 340 (za 12500 TS2) ∧ cc o G2 141 341 (za 12500 TO2) ∧ (rgs ZN2 12500 0 1) ∧ (rgs ZS2 12500 0 1) ∧ (rgs SP2 20 (-1) 2000) ∧ (rgs PT2 25000 0 12500) ∧ (rgs TS2 12500 0 19) ∧ (rgs TO2 12500 (-1) 2000) ∧ (ab2 = m_allBefore) ∧ (nxC v9 A_subject m_length (1 - A_flagsOf s / 16) m_allBefore 20 0 SP2))) := by
  refine ab_F_of (by decide +kernel) (Nat.le_of_ble_eq_true rfl) ?_
  obtain ⟨Q, hQ⟩ : ∃ z : Outcome → ab_G → Prop, z = (fun oc G2 => (∃ w2 : Int, ∃ c2 : Int, ∃ cw2 : Int, ∃ t2 : Int, ∃ JU2 : Int → Int, ∃ CO2 : Int → Int, ∃ ZN2 : Int → Int, ∃ ZS2 : Int → Int, ∃ SP2 : Int → Int, ∃ PL2 : Int → Int, ∃ PT2 : Int → Int, ∃ TS2 : Int → Int, ∃ TO2 : Int → Int, ∃ af2 : Int, ∃ ab2 : Int, oc = .returned (some (vz 1)) ∧ fx o o [280, 335, 336, 337, 344, 338, 342, 343, 340, 341] G G2 ∧ G2.length = G.length ∧ ab_slots G2 = ab_slots G ∧ cc o G2 80 280 (ab_ob 12 (mof m_thrown m_taped m_length m_out w2 m_gathered m_sets m_ranges m_nodes m_at m_flags m_fault m_place m_numbered m_depth m_value m_isNot m_least0 m_most0 m_slot m_work m_got m_rowMany c2 cw2 t2 m_isMatch m_matchGroups af2 ab2 m_founds m_pieces m_writtenMany m_templateWide m_tooMuch)) ∧ cc o G2 135 335 (zl 392196 JU2) ∧ cc o G2 136 336 (zl 392196 CO2) ∧ cc o G2 137 337 (zb 12500 ZN2) ∧ cc o G2 144 344 (zb 12500 ZS2) ∧ cc o G2 138 338 (za 20 SP2) ∧ cc o G2 142 342 (za 25000 PL2) ∧ cc o G2 143 343 (za 25000 PT2) ∧ cc o G2 140 340 (za 12500 TS2) ∧ cc o G2 141 341 (za 12500 TO2) ∧ (rgs ZN2 12500 0 1) ∧ (rgs ZS2 12500 0 1) ∧ (rgs SP2 20 (-1) 2000) ∧ (rgs PT2 25000 0 12500) ∧ (rgs TS2 12500 0 19) ∧ (rgs TO2 12500 (-1) 2000) ∧ (m_allBefore < ab2 ∧ ab2 ≤ af2 ∧ 0 ≤ af2 ∧ af2 ≤ m_length ∧ af2 = SP2 1 ∧ ab2 = SP2 1) ∧ (0 ≤ SP2 0 ∧ SP2 0 ≤ SP2 1 ∧ SP2 1 ≤ m_length) ∧ (nxC v9 A_subject m_length (1 - A_flagsOf s / 16) m_allBefore 20 1 SP2)) ∨ (∃ w2 : Int, ∃ c2 : Int, ∃ cw2 : Int, ∃ t2 : Int, ∃ JU2 : Int → Int, ∃ CO2 : Int → Int, ∃ ZN2 : Int → Int, ∃ ZS2 : Int → Int, ∃ SP2 : Int → Int, ∃ PL2 : Int → Int, ∃ PT2 : Int → Int, ∃ TS2 : Int → Int, ∃ TO2 : Int → Int, ∃ af2 : Int, ∃ ab2 : Int, oc = .returned (some (vz 0)) ∧ fx o o [280, 335, 336, 337, 344, 338, 342, 343, 340, 341] G G2 ∧ G2.length = G.length ∧ ab_slots G2 = ab_slots G ∧ cc o G2 80 280 (ab_ob 12 (mof m_thrown m_taped m_length m_out w2 m_gathered m_sets m_ranges m_nodes m_at m_flags m_fault m_place m_numbered m_depth m_value m_isNot m_least0 m_most0 m_slot m_work m_got m_rowMany c2 cw2 t2 m_isMatch m_matchGroups af2 ab2 m_founds m_pieces m_writtenMany m_templateWide m_tooMuch)) ∧ cc o G2 135 335 (zl 392196 JU2) ∧ cc o G2 136 336 (zl 392196 CO2) ∧ cc o G2 137 337 (zb 12500 ZN2) ∧ cc o G2 144 344 (zb 12500 ZS2) ∧ cc o G2 138 338 (za 20 SP2) ∧ cc o G2 142 342 (za 25000 PL2) ∧ cc o G2 143 343 (za 25000 PT2) ∧ cc o G2 140 340 (za 12500 TS2) ∧ cc o G2 141 341 (za 12500 TO2) ∧ (rgs ZN2 12500 0 1) ∧ (rgs ZS2 12500 0 1) ∧ (rgs SP2 20 (-1) 2000) ∧ (rgs PT2 25000 0 12500) ∧ (rgs TS2 12500 0 19) ∧ (rgs TO2 12500 (-1) 2000) ∧ (ab2 = m_allBefore) ∧ (nxC v9 A_subject m_length (1 - A_flagsOf s / 16) m_allBefore 20 0 SP2))) := ⟨_, rfl⟩
  rw [← hQ]
  change ab_W X (ab_pl y_MO_nextMatch b_MO_nextMatch 3 (some (.boolean))) d G 0 [some (vR 80), some (vz s), none] [] Q
  have hfr : fx o o [280, 335, 336, 337, 344, 338, 342, 343, 340, 341] G G := fx.rf
  have hlen : G.length = G.length := rfl
  have hsl : ab_slots G = ab_slots G := rfl
  refine y_MO_nextMatch_0 (m_thrown := m_thrown) (m_taped := m_taped) (m_length := m_length) (m_out := m_out) (m_gathered := m_gathered) (m_sets := m_sets) (m_ranges := m_ranges) (m_nodes := m_nodes) (m_at := m_at) (m_flags := m_flags) (m_fault := m_fault) (m_place := m_place) (m_numbered := m_numbered) (m_depth := m_depth) (m_value := m_value) (m_isNot := m_isNot) (m_least0 := m_least0) (m_most0 := m_most0) (m_slot := m_slot) (m_work := m_work) (m_got := m_got) (m_rowMany := m_rowMany) (m_isMatch := m_isMatch) (m_matchGroups := m_matchGroups) (m_allBefore := m_allBefore) (m_founds := m_founds) (m_pieces := m_pieces) (m_writtenMany := m_writtenMany) (m_templateWide := m_templateWide) (m_tooMuch := m_tooMuch) (A_flagsOf := A_flagsOf) (A_step := A_step) (A_next := A_next) (A_more := A_more) (A_classAt := A_classAt) (A_classMany := A_classMany) (A_classLow := A_classLow) (A_classHigh := A_classHigh) (A_subject := A_subject) (A_stepMany := A_stepMany) (A_entry := A_entry) (CN := CN) (s := s) (v9 := v9) (G0 := G) (m_wide := m_wide) (m_charAt := m_charAt) (m_charWide := m_charWide) (m_trail := m_trail) (m_allFrom := m_allFrom) (JU := JU) (CO := CO) (ZN := ZN) (ZS := ZS) (SP := SP) (PL := PL) (PT := PT) (TS := TS) (TO := TO) (by omega) (by omega) (by omega) jsg jst jcl jch jsb (by omega) (by omega) hnr hnt jps (by omega) (Int.toNat (m_length + 2 - m_allFrom) + 1) h80 h134 h135 h136 h137 h144 h138 h142 h143 h140 h141 h116 h118 h119 h120 h121 h122 h123 h124 h85 h117 h113 (by omega) (nxI_0 cmx) jn jse jsp jpt jts jto fx.rf rfl rfl (by omega) (fun G1 w22 c23 cw24 t25 JU26 CO27 ZN28 ZS29 SP210 PL211 PT212 TS213 TO214 af215 ab216 hN80 hN135 hN136 hN137 hN144 hN138 hN142 hN143 hN140 hN141 hq17 hq18 hq19 hq20 hq21 hq22 hq23 hq24 hq25 hfk hlk hsk => ?_) (fun G26 w227 c228 cw229 t230 JU231 CO232 ZN233 ZS234 SP235 PL236 PT237 TS238 TO239 af240 ab241 hN80 hN135 hN136 hN137 hN144 hN138 hN142 hN143 hN140 hN141 hq42 hq43 hq44 hq45 hq46 hq47 hq48 hq49 hfk hlk hsk => ?_)
  · have h134 := hfk.get h134 (by decide)
    have h116 := hfk.get h116 (by decide)
    have h118 := hfk.get h118 (by decide)
    have h119 := hfk.get h119 (by decide)
    have h120 := hfk.get h120 (by decide)
    have h121 := hfk.get h121 (by decide)
    have h122 := hfk.get h122 (by decide)
    have h123 := hfk.get h123 (by decide)
    have h124 := hfk.get h124 (by decide)
    have h85 := hfk.get h85 (by decide)
    have h117 := hfk.get h117 (by decide)
    have h113 := hfk.get h113 (by decide)
    have hfr := hfr.tr hfk (by decide)
    have hlen := hlk.trans hlen
    have hsl := hsk.trans hsl
    have h80 := hN80
    have h135 := hN135
    have h136 := hN136
    have h137 := hN137
    have h144 := hN144
    have h138 := hN138
    have h142 := hN142
    have h143 := hN143
    have h140 := hN140
    have h141 := hN141
    rw [hQ]; exact (Or.inl ⟨_, _, _, _, _, _, _, _, _, _, _, _, _, _, _, rfl, hfr, hlen, hsl, h80, h135, h136, h137, h144, h138, h142, h143, h140, h141, (by first | exact hq17 | exact rgs_w hq17 (by omega)), (by first | exact hq18 | exact rgs_w hq18 (by omega)), (by first | exact hq19 | exact rgs_w hq19 (by omega)), (by first | exact hq20 | exact rgs_w hq20 (by omega)), (by first | exact hq21 | exact rgs_w hq21 (by omega)), (by first | exact hq22 | exact rgs_w hq22 (by omega)), (by omega), (by omega), (by exact hq25)⟩)
  · have h134 := hfk.get h134 (by decide)
    have h116 := hfk.get h116 (by decide)
    have h118 := hfk.get h118 (by decide)
    have h119 := hfk.get h119 (by decide)
    have h120 := hfk.get h120 (by decide)
    have h121 := hfk.get h121 (by decide)
    have h122 := hfk.get h122 (by decide)
    have h123 := hfk.get h123 (by decide)
    have h124 := hfk.get h124 (by decide)
    have h85 := hfk.get h85 (by decide)
    have h117 := hfk.get h117 (by decide)
    have h113 := hfk.get h113 (by decide)
    have hfr := hfr.tr hfk (by decide)
    have hlen := hlk.trans hlen
    have hsl := hsk.trans hsl
    have h80 := hN80
    have h135 := hN135
    have h136 := hN136
    have h137 := hN137
    have h144 := hN144
    have h138 := hN138
    have h142 := hN142
    have h143 := hN143
    have h140 := hN140
    have h141 := hN141
    rw [hQ]; exact (Or.inr ⟨_, _, _, _, _, _, _, _, _, _, _, _, _, _, _, rfl, hfr, hlen, hsl, h80, h135, h136, h137, h144, h138, h142, h143, h140, h141, (by first | exact hq42 | exact rgs_w hq42 (by omega)), (by first | exact hq43 | exact rgs_w hq43 (by omega)), (by first | exact hq44 | exact rgs_w hq44 (by omega)), (by first | exact hq45 | exact rgs_w hq45 (by omega)), (by first | exact hq46 | exact rgs_w hq46 (by omega)), (by first | exact hq47 | exact rgs_w hq47 (by omega)), (by omega), (by exact hq49)⟩)
