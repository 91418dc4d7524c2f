set_option maxRecDepth 100000 in
set_option maxHeartbeats 4000000 in
theorem y_MO_which_75 {X : ab_X} {d : Nat} {Q : Outcome → ab_G → Prop} {o : Nat → Nat} {G0 : ab_G} {m_thrown : Int} {m_taped : Int} {m_length : Int} {m_out : Int} {m_wide : Int} {m_gathered : Int} {m_sets : Int} {m_ranges : Int} {m_nodes : Int} {m_at : Int} {m_flags : Int} {m_fault : Int} {m_place : Int} {m_numbered : Int} {m_depth : Int} {m_value : Int} {m_isNot : Int} {m_least0 : Int} {m_most0 : Int} {m_slot : Int} {m_work : Int} {m_got : Int} {m_rowMany : Int} {m_charAt : Int} {m_charWide : Int} {m_trail : Int} {m_isMatch : Int} {m_matchGroups : Int} {m_allFrom : Int} {m_allBefore : Int} {m_founds : Int} {m_pieces : Int} {m_writtenMany : Int} {m_templateWide : Int} {m_tooMuch : Int} {A_entry : Int → Int} {CN : Int → Int} {x : Int} {wh : Int} {an : Int} {s : Int} (cle : 0 ≤ m_length ∧ m_length ≤ 2000) (cs : 0 ≤ s ∧ s ≤ 5 ∧ 0 ≤ wh ∧ wh ≤ 1 ∧ 0 ≤ A_entry s ∧ A_entry s < 12500) (hd : 1 ≤ d) : ∀ (mz : Nat) {G : ab_G} {is_ : Int} {p : Int}, (cc o G 80 280 (ab_ob 12 (mof m_thrown m_taped m_length m_out m_wide m_gathered m_sets m_ranges m_nodes m_at m_flags m_fault m_place m_numbered m_depth m_value m_isNot m_least0 m_most0 m_slot m_work m_got m_rowMany m_charAt m_charWide m_trail m_isMatch m_matchGroups m_allFrom m_allBefore m_founds m_pieces m_writtenMany m_templateWide m_tooMuch))) → (cc o G 134 334 (zl 392196 CN)) → (cc o G 113 313 (za 6 A_entry)) → (0 ≤ is_ ∧ is_ ≤ 1 ∧ 1 ≤ p ∧ p ≤ m_length + 1) → (p ≤ 1 + 3000 * (1 - wh)) → (wiI CN (A_entry s) is_ p) → (fx o o [] G0 G) → (G.length = G0.length) → (ab_slots G = ab_slots G0) → (Int.toNat (m_length + 1 - p) < mz) → (∀ (G2 : ab_G) (i2 : Int), (0 ≤ i2 ∧ i2 ≤ 1) → (wiE CN (A_entry s) m_length wh i2) → (fx o o [] G0 G2) → (G2.length = G0.length) → (ab_slots G2 = ab_slots G0) → ab_W X (ab_pl y_MO_which b_MO_which 7 (some (.int))) d G2 117 [some (vR 80), some (vz x), some (vz wh), some (vz an), some (vz s), some (vz i2), none] [] Q) → ab_W X (ab_pl y_MO_which b_MO_which 7 (some (.int))) d G 75 [some (vR 80), some (vz x), some (vz wh), some (vz an), some (vz s), some (vz is_), some (vz p)] [] Q := by
  intro mz
  induction mz with
  | zero => intro G is_ p h80 h134 h113 ci cpw jis hfr hlen hsl hm hk0; exact absurd hm (Nat.not_lt_zero _)
  | succ mz ih =>
    intro G is_ p h80 h134 h113 ci cpw jis hfr hlen hsl hm hk0
    refine ab_iload d_MO_which_75 rfl ?_
    refine ab_aload_n d_MO_which_77 rfl ?_
    refine ab_getf (fs := mof m_thrown m_taped m_length m_out m_wide m_gathered m_sets m_ranges m_nodes m_at m_flags m_fault m_place m_numbered m_depth m_value m_isNot m_least0 m_most0 m_slot m_work m_got m_rowMany m_charAt m_charWide m_trail m_isMatch m_matchGroups m_allFrom m_allBefore m_founds m_pieces m_writtenMany m_templateWide m_tooMuch) f_MO_510 d_MO_which_78 h80.2.2 rfl ?_
    refine zz_icmp_gt (tgt := 117) d_MO_which_81 (by decide) (by omega) (by omega) (fun c1 => ?_) (fun c1 => ?_)
    · refine ab_less (L' := [some (vR 80), some (vz x), some (vz wh), some (vz an), some (vz s), some (vz is_), none]) (fun i v h => by rcases i with _ | _ | _ | _ | _ | _ | _ | i <;> first | exact h | (simp at h)) ?_
      exact hk0 _ _ (by omega) (by exact wiI_e jis (by omega) (by omega) (by omega) (by omega)) hfr hlen hsl
    · refine ab_iload d_MO_which_84 rfl ?_
      refine zz_if_ne (tgt := 117) d_MO_which_86 (by decide) (by omega) (fun c2 => ?_) (fun c2 => ?_)
      · refine ab_less (L' := [some (vR 80), some (vz x), some (vz wh), some (vz an), some (vz s), some (vz is_), none]) (fun i v h => by rcases i with _ | _ | _ | _ | _ | _ | _ | i <;> first | exact h | (simp at h)) ?_
        exact hk0 _ _ (by omega) (by exact wiI_e jis (by omega) (by omega) (by omega) (by omega)) hfr hlen hsl
      · refine ab_iload_n d_MO_which_89 rfl ?_
        refine zz_if_ne (tgt := 117) d_MO_which_90 (by decide) (by omega) (fun c3 => ?_) (fun c3 => ?_)
        · refine ab_less (L' := [some (vR 80), some (vz x), some (vz wh), some (vz an), some (vz s), some (vz is_), none]) (fun i v h => by rcases i with _ | _ | _ | _ | _ | _ | _ | i <;> first | exact h | (simp at h)) ?_
          exact hk0 _ _ (by omega) (by exact wiI_e jis (by omega) (by omega) (by omega) (by omega)) hfr hlen hsl
        · refine ab_aload_n d_MO_which_93 rfl ?_
          refine ab_getf (fs := mof m_thrown m_taped m_length m_out m_wide m_gathered m_sets m_ranges m_nodes m_at m_flags m_fault m_place m_numbered m_depth m_value m_isNot m_least0 m_most0 m_slot m_work m_got m_rowMany m_charAt m_charWide m_trail m_isMatch m_matchGroups m_allFrom m_allBefore m_founds m_pieces m_writtenMany m_templateWide m_tooMuch) f_MO_178 d_MO_which_94 h80.2.2 rfl ?_
          refine ab_iload d_MO_which_97 rfl ?_
          refine ab_aload_n d_MO_which_99 rfl ?_
          refine ab_getf (fs := mof m_thrown m_taped m_length m_out m_wide m_gathered m_sets m_ranges m_nodes m_at m_flags m_fault m_place m_numbered m_depth m_value m_isNot m_least0 m_most0 m_slot m_work m_got m_rowMany m_charAt m_charWide m_trail m_isMatch m_matchGroups m_allFrom m_allBefore m_founds m_pieces m_writtenMany m_templateWide m_tooMuch) f_MO_112 d_MO_which_100 h80.2.2 rfl ?_
          refine ab_iload d_MO_which_103 rfl ?_
          refine zz_iald d_MO_which_105 h113 (by omega) ?_
          refine ab_callS (d' := d - 1) (as := [vR 134, vz p, vz (A_entry s)]) (st := []) (z_MO_bit (o := o) (a := 134) (l := 334) (A := CN) (p := p) (k := (A_entry s)) h134 (by omega)) (fun oc G2 h => by rcases h with ⟨h, _⟩ | ⟨h, _⟩ <;> exact ⟨_, h⟩) (by omega) m_MO_bit ml_MO_528 st_MO_bit (Nat.le_of_ble_eq_true rfl) d_MO_which_106 rfl ?_
          intro v G4 hq
          rcases hq with ⟨hv, hGe, hq5⟩ | ⟨hv, hGe, hq6⟩
          · cases hv
            rw [hGe]
            change ab_W _ _ _ G 109 [some (vR 80), some (vz x), some (vz wh), some (vz an), some (vz s), some (vz is_), some (vz p)] [vz 1] _
            refine ab_istore d_MO_which_109 (Nat.le_of_ble_eq_true rfl) (Nat.le_of_ble_eq_true rfl) rfl ?_
            change ab_W _ _ _ G 111 [some (vR 80), some (vz x), some (vz wh), some (vz an), some (vz s), some (vz 1), some (vz p)] [] _
            refine zz_iinc d_MO_which_111 rfl (Nat.le_of_ble_eq_true rfl) (Nat.le_of_ble_eq_true rfl) rfl ?_
            change ab_W _ _ _ G 114 [some (vR 80), some (vz x), some (vz wh), some (vz an), some (vz s), some (vz 1), some (vz (p + 1))] [] _
            refine ab_goto (tgt := 75) d_MO_which_114 (by decide) ?_
            exact ih (is_ := 1) (p := (p + 1)) h80 h134 h113 (by omega) (by omega) (wiI_y jis (by omega) hq5) hfr hlen hsl (by omega) hk0
          · cases hv
            rw [hGe]
            change ab_W _ _ _ G 109 [some (vR 80), some (vz x), some (vz wh), some (vz an), some (vz s), some (vz is_), some (vz p)] [vz 0] _
            refine ab_istore d_MO_which_109 (Nat.le_of_ble_eq_true rfl) (Nat.le_of_ble_eq_true rfl) rfl ?_
            change ab_W _ _ _ G 111 [some (vR 80), some (vz x), some (vz wh), some (vz an), some (vz s), some (vz 0), some (vz p)] [] _
            refine zz_iinc d_MO_which_111 rfl (Nat.le_of_ble_eq_true rfl) (Nat.le_of_ble_eq_true rfl) rfl ?_
            change ab_W _ _ _ G 114 [some (vR 80), some (vz x), some (vz wh), some (vz an), some (vz s), some (vz 0), some (vz (p + 1))] [] _
            refine ab_goto (tgt := 75) d_MO_which_114 (by decide) ?_
            exact ih (is_ := 0) (p := (p + 1)) h80 h134 h113 (by omega) (by omega) (wiI_n jis (by omega) hq6) hfr hlen hsl (by omega) hk0
set_option maxRecDepth 100000 in
set_option maxHeartbeats 4000000 in
theorem y_MO_which_10 {X : ab_X} {d : Nat} {Q : Outcome → ab_G → Prop} {o : Nat → Nat} {G0 : ab_G} {m_thrown : Int} {m_taped : Int} {m_length : Int} {m_out : Int} {m_gathered : Int} {m_sets : Int} {m_ranges : Int} {m_nodes : Int} {m_at : Int} {m_flags : Int} {m_fault : Int} {m_place : Int} {m_numbered : Int} {m_depth : Int} {m_value : Int} {m_isNot : Int} {m_least0 : Int} {m_most0 : Int} {m_slot : Int} {m_work : Int} {m_got : Int} {m_rowMany : Int} {m_trail : Int} {m_isMatch : Int} {m_matchGroups : Int} {m_allFrom : Int} {m_allBefore : Int} {m_founds : Int} {m_pieces : Int} {m_writtenMany : Int} {m_templateWide : Int} {m_tooMuch : Int} {A_there : Int → Int} {A_groupsOf : Int → Int} {A_flagsOf : Int → Int} {A_step : Int → Int} {A_next : Int → Int} {A_more : Int → Int} {A_classAt : Int → Int} {A_classMany : Int → Int} {A_classLow : Int → Int} {A_classHigh : Int → Int} {A_subject : Int → Int} {A_stepMany : Int → Int} {A_entry : Int → Int} {x : Int} {wh : Int} {V6 : Int → Sn} (n18 : ab_n0 = 18) (cle : 0 ≤ m_length ∧ m_length ≤ 2000) (jth : rgs A_there 6 0 1) (jpg : mpg A_there A_step A_next A_more A_classAt A_classMany A_stepMany A_entry A_groupsOf A_flagsOf) (jst : rgs A_step 75000 0 6) (jcl : rgs A_classLow 3600 0 1114111) (jch : rgs A_classHigh 3600 0 1114111) (jsb : rgs A_subject 2000 0 255) (cwh : 0 ≤ wh ∧ wh ≤ 1) (cx : -2147483648 ≤ x ∧ x ≤ 2147483647) (jpm : mpm A_there A_step A_next A_more A_classAt A_classMany A_classLow A_classHigh A_stepMany A_entry V6) (hd : 7 ≤ d) : ∀ (mz : Nat) {G : ab_G} {an : Int} {s : Int} {m_wide : Int} {m_charAt : Int} {m_charWide : Int} {CN : Int → Int} {ZN : Int → Int}, (cc o G 80 280 (ab_ob 12 (mof m_thrown m_taped m_length m_out m_wide m_gathered m_sets m_ranges m_nodes m_at m_flags m_fault m_place m_numbered m_depth m_value m_isNot m_least0 m_most0 m_slot m_work m_got m_rowMany m_charAt m_charWide m_trail m_isMatch m_matchGroups m_allFrom m_allBefore m_founds m_pieces m_writtenMany m_templateWide m_tooMuch))) → (cc o G 134 334 (zl 392196 CN)) → (cc o G 137 337 (zb 12500 ZN)) → (cc o G 112 312 (zb 6 A_there)) → (cc o G 114 314 (za 6 A_groupsOf)) → (cc o G 116 316 (za 6 A_flagsOf)) → (cc o G 118 318 (za 75000 A_step)) → (cc o G 119 319 (za 75000 A_next)) → (cc o G 120 320 (za 75000 A_more)) → (cc o G 121 321 (za 75000 A_classAt)) → (cc o G 122 322 (za 75000 A_classMany)) → (cc o G 123 323 (za 3600 A_classLow)) → (cc o G 124 324 (za 3600 A_classHigh)) → (cc o G 85 285 (za 2000 A_subject)) → (cc o G 117 317 (za 6 A_stepMany)) → (cc o G 113 313 (za 6 A_entry)) → (0 ≤ s ∧ s ≤ 6) → (rgs ZN 12500 0 1) → (an = whI (whS A_there V6 A_subject m_length x wh) s) → (fx o o [280, 334, 337] G0 G) → (G.length = G0.length) → (ab_slots G = ab_slots G0) → (Int.toNat (6 - s) < mz) → (∀ (G2 : ab_G) (w2 : Int) (c2 : Int) (cw2 : Int) (CN2 : Int → Int) (ZN2 : Int → Int) (a2 : Int), (cc o G2 80 280 (ab_ob 12 (mof m_thrown m_taped m_length m_out w2 m_gathered m_sets m_ranges m_nodes m_at m_flags m_fault m_place m_numbered m_depth m_value m_isNot m_least0 m_most0 m_slot m_work m_got m_rowMany c2 cw2 m_trail m_isMatch m_matchGroups m_allFrom m_allBefore m_founds m_pieces m_writtenMany m_templateWide m_tooMuch))) → (cc o G2 134 334 (zl 392196 CN2)) → (cc o G2 137 337 (zb 12500 ZN2)) → (rgs ZN2 12500 0 1) → (a2 = whI (whS A_there V6 A_subject m_length x wh) 6) → (fx o o [280, 334, 337] G0 G2) → (G2.length = G0.length) → (ab_slots G2 = ab_slots G0) → ab_W X (ab_pl y_MO_which b_MO_which 7 (some (.int))) d G2 139 [none, none, none, some (vz a2), none, none, none] [] Q) → ab_W X (ab_pl y_MO_which b_MO_which 7 (some (.int))) d G 10 [some (vR 80), some (vz x), some (vz wh), some (vz an), some (vz s), none, none] [] Q := by
  intro mz
  induction mz with
  | zero => intro G an s m_wide m_charAt m_charWide CN ZN h80 h134 h137 h112 h114 h116 h118 h119 h120 h121 h122 h123 h124 h85 h117 h113 ci jn jan hfr hlen hsl hm hk0; exact absurd hm (Nat.not_lt_zero _)
  | succ mz ih =>
    intro G an s m_wide m_charAt m_charWide CN ZN h80 h134 h137 h112 h114 h116 h118 h119 h120 h121 h122 h123 h124 h85 h117 h113 ci jn jan hfr hlen hsl hm hk0
    refine ab_iload d_MO_which_10 rfl ?_
    refine zz_bipush d_MO_which_12 (by decide) ?_
    refine zz_icmp_ge (tgt := 139) d_MO_which_14 (by decide) (by omega) (by decide) (fun c1 => ?_) (fun c1 => ?_)
    · refine ab_less (L' := [none, none, none, some (vz an), none, none, none]) (fun i v h => by rcases i with _ | _ | _ | _ | _ | _ | _ | i <;> first | exact h | (simp at h)) ?_
      exact hk0 _ _ _ _ _ _ _ h80 h134 h137 (by first | exact jn | exact rgs_w jn (by omega)) (by rw [show (6 : Int) = s by omega]; exact jan) hfr hlen hsl
    · refine ab_iload_n d_MO_which_17 rfl ?_
      refine ab_iload d_MO_which_18 rfl ?_
      refine ab_ishr d_MO_which_20 ?_
      refine zz_iconst d_MO_which_21 ?_
      refine ab_iand d_MO_which_22 ?_
      have hxb_ := (xb_ok x s).1
      refine ab_topi (xb_ok x s).2 ?_
      change ab_W _ _ _ G 23 [some (vR 80), some (vz x), some (vz wh), some (vz an), some (vz s), none, none] [vz (xb x s)] _
      refine zz_if_eq (tgt := 133) d_MO_which_23 (by decide) (by omega) (fun c2 => ?_) (fun c2 => ?_)
      · refine zz_iinc d_MO_which_133 rfl (Nat.le_of_ble_eq_true rfl) (Nat.le_of_ble_eq_true rfl) rfl ?_
        change ab_W _ _ _ G 136 [some (vR 80), some (vz x), some (vz wh), some (vz an), some (vz (s + 1)), none, none] [] _
        refine ab_goto (tgt := 10) d_MO_which_136 (by decide) ?_
        exact ih (an := an) (s := (s + 1)) (m_wide := m_wide) (m_charAt := m_charAt) (m_charWide := m_charWide) (CN := CN) (ZN := ZN) h80 h134 h137 h112 h114 h116 h118 h119 h120 h121 h122 h123 h124 h85 h117 h113 (by omega) jn (whI_n jan (by omega) (by first | exact whS_x (by omega) | exact whS_0 (by omega))) hfr hlen hsl (by omega) hk0
      · refine ab_aload_n d_MO_which_26 rfl ?_
        refine ab_getf (fs := mof m_thrown m_taped m_length m_out m_wide m_gathered m_sets m_ranges m_nodes m_at m_flags m_fault m_place m_numbered m_depth m_value m_isNot m_least0 m_most0 m_slot m_work m_got m_rowMany m_charAt m_charWide m_trail m_isMatch m_matchGroups m_allFrom m_allBefore m_founds m_pieces m_writtenMany m_templateWide m_tooMuch) f_MO_109 d_MO_which_27 h80.2.2 rfl ?_
        refine ab_iload d_MO_which_30 rfl ?_
        refine zz_zald d_MO_which_32 h112 (by omega) ?_
        have hq3 := jth s (by omega) (by omega)
        refine zz_if_ne (tgt := 39) d_MO_which_33 (by decide) (by omega) (fun c4 => ?_) (fun c4 => ?_)
        · obtain ⟨hp1_, hp2_, hp3_, hp4_, hp5_⟩ := jpg s (by omega) (by omega) (by omega)
          have hp6_ := jpm s (by omega) (by omega) (by omega)
          refine ab_aload_n d_MO_which_39 rfl ?_
          refine ab_aload_n d_MO_which_40 rfl ?_
          refine ab_getf (fs := mof m_thrown m_taped m_length m_out m_wide m_gathered m_sets m_ranges m_nodes m_at m_flags m_fault m_place m_numbered m_depth m_value m_isNot m_least0 m_most0 m_slot m_work m_got m_rowMany m_charAt m_charWide m_trail m_isMatch m_matchGroups m_allFrom m_allBefore m_founds m_pieces m_writtenMany m_templateWide m_tooMuch) f_MO_178 d_MO_which_41 h80.2.2 rfl ?_
          refine ab_iload d_MO_which_44 rfl ?_
          refine ab_aload_n d_MO_which_46 rfl ?_
          refine ab_getf (fs := mof m_thrown m_taped m_length m_out m_wide m_gathered m_sets m_ranges m_nodes m_at m_flags m_fault m_place m_numbered m_depth m_value m_isNot m_least0 m_most0 m_slot m_work m_got m_rowMany m_charAt m_charWide m_trail m_isMatch m_matchGroups m_allFrom m_allBefore m_founds m_pieces m_writtenMany m_templateWide m_tooMuch) f_MO_510 d_MO_which_47 h80.2.2 rfl ?_
          refine zz_iconst d_MO_which_50 ?_
          refine ab_iload_n d_MO_which_51 rfl ?_
          refine ab_callV (d' := d - 1) (as := [vR 134, vz s, vz m_length, vz 0, vz wh]) (st := []) (r := _) (z_MO_note (o := o) (m_thrown := m_thrown) (m_taped := m_taped) (m_length := m_length) (m_out := m_out) (m_wide := m_wide) (m_gathered := m_gathered) (m_sets := m_sets) (m_ranges := m_ranges) (m_nodes := m_nodes) (m_at := m_at) (m_flags := m_flags) (m_fault := m_fault) (m_place := m_place) (m_numbered := m_numbered) (m_depth := m_depth) (m_value := m_value) (m_isNot := m_isNot) (m_least0 := m_least0) (m_most0 := m_most0) (m_slot := m_slot) (m_work := m_work) (m_got := m_got) (m_rowMany := m_rowMany) (m_charAt := m_charAt) (m_charWide := m_charWide) (m_trail := m_trail) (m_isMatch := m_isMatch) (m_matchGroups := m_matchGroups) (m_allFrom := m_allFrom) (m_allBefore := m_allBefore) (m_founds := m_founds) (m_pieces := m_pieces) (m_writtenMany := m_writtenMany) (m_templateWide := m_templateWide) (m_tooMuch := m_tooMuch) (A_subject := A_subject) (A_stepMany := A_stepMany) (A_step := A_step) (A_next := A_next) (A_more := A_more) (A_classAt := A_classAt) (A_classMany := A_classMany) (A_classLow := A_classLow) (A_classHigh := A_classHigh) (no := 134) (lno := 334) (NO := CN) (Z := ZN) (s := s) (fr := m_length) (to := 0) (al := wh) h80 h134 h137 h118 h119 h120 h121 h122 h123 h124 h85 h117 (by omega) (by omega) (by omega) (by omega) hp5_ jst jcl jch jsb (by omega) jn (by omega)) (fun oc G2 h => by rcases h with ⟨_, _, _, _, _, h, _⟩ <;> exact ⟨_, h⟩) (by omega) m_MO_note ml_MO_559 im_MO_note se_MO_note c_MO h80.2.2 (Nat.le_of_ble_eq_true rfl) d_MO_which_52 rfl ?_
          intro v G5 hq
          rcases hq with ⟨NO26, Z27, w28, c29, cw210, hv, hfk, hlk, hsk, hN80, hN134, hN137, hq11, hq12, hq13⟩
          cases hv
          have h112 := hfk.get h112 (by decide)
          have h114 := hfk.get h114 (by decide)
          have h116 := hfk.get h116 (by decide)
          have h118 := hfk.get h118 (by decide)
          have h119 := hfk.get h119 (by decide)
          have h120 := hfk.get h120 (by decide)
          have h121 := hfk.get h121 (by decide)
          have h122 := hfk.get h122 (by decide)
          have h123 := hfk.get h123 (by decide)
          have h124 := hfk.get h124 (by decide)
          have h85 := hfk.get h85 (by decide)
          have h117 := hfk.get h117 (by decide)
          have h113 := hfk.get h113 (by decide)
          have hfr := hfr.tr hfk (by decide)
          have hlen := hlk.trans hlen
          have hsl := hsk.trans hsl
          have h80 := hN80
          have h134 := hN134
          have h137 := hN137
          change ab_W _ _ _ G5 55 [some (vR 80), some (vz x), some (vz wh), some (vz an), some (vz s), none, none] [] _
          refine ab_aload_n d_MO_which_55 rfl ?_
          refine ab_getf (fs := mof m_thrown m_taped m_length m_out w28 m_gathered m_sets m_ranges m_nodes m_at m_flags m_fault m_place m_numbered m_depth m_value m_isNot m_least0 m_most0 m_slot m_work m_got m_rowMany c29 cw210 m_trail m_isMatch m_matchGroups m_allFrom m_allBefore m_founds m_pieces m_writtenMany m_templateWide m_tooMuch) f_MO_178 d_MO_which_56 h80.2.2 rfl ?_
          refine zz_iconst d_MO_which_59 ?_
          refine ab_aload_n d_MO_which_60 rfl ?_
          refine ab_getf (fs := mof m_thrown m_taped m_length m_out w28 m_gathered m_sets m_ranges m_nodes m_at m_flags m_fault m_place m_numbered m_depth m_value m_isNot m_least0 m_most0 m_slot m_work m_got m_rowMany c29 cw210 m_trail m_isMatch m_matchGroups m_allFrom m_allBefore m_founds m_pieces m_writtenMany m_templateWide m_tooMuch) f_MO_112 d_MO_which_61 h80.2.2 rfl ?_
          refine ab_iload d_MO_which_64 rfl ?_
          refine zz_iald d_MO_which_66 h113 (by omega) ?_
          refine ab_callS (d' := d - 1) (as := [vR 134, vz 0, vz (A_entry s)]) (st := []) (z_MO_bit (o := o) (a := 134) (l := 334) (A := NO26) (p := 0) (k := (A_entry s)) h134 (by omega)) (fun oc G2 h => by rcases h with ⟨h, _⟩ | ⟨h, _⟩ <;> exact ⟨_, h⟩) (by omega) m_MO_bit ml_MO_528 st_MO_bit (Nat.le_of_ble_eq_true rfl) d_MO_which_67 rfl ?_
          intro v G14 hq
          rcases hq with ⟨hv, hGe, hq15⟩ | ⟨hv, hGe, hq16⟩
          · cases hv
            rw [hGe]
            change ab_W _ _ _ G5 70 [some (vR 80), some (vz x), some (vz wh), some (vz an), some (vz s), none, none] [vz 1] _
            refine ab_istore d_MO_which_70 (Nat.le_of_ble_eq_true rfl) (Nat.le_of_ble_eq_true rfl) rfl ?_
            change ab_W _ _ _ G5 72 [some (vR 80), some (vz x), some (vz wh), some (vz an), some (vz s), some (vz 1), none] [] _
            refine zz_iconst d_MO_which_72 ?_
            refine ab_istore d_MO_which_73 (Nat.le_of_ble_eq_true rfl) (Nat.le_of_ble_eq_true rfl) rfl ?_
            change ab_W _ _ _ G5 75 [some (vR 80), some (vz x), some (vz wh), some (vz an), some (vz s), some (vz 1), some (vz 1)] [] _
            refine y_MO_which_75 (m_thrown := m_thrown) (m_taped := m_taped) (m_length := m_length) (m_out := m_out) (m_wide := w28) (m_gathered := m_gathered) (m_sets := m_sets) (m_ranges := m_ranges) (m_nodes := m_nodes) (m_at := m_at) (m_flags := m_flags) (m_fault := m_fault) (m_place := m_place) (m_numbered := m_numbered) (m_depth := m_depth) (m_value := m_value) (m_isNot := m_isNot) (m_least0 := m_least0) (m_most0 := m_most0) (m_slot := m_slot) (m_work := m_work) (m_got := m_got) (m_rowMany := m_rowMany) (m_charAt := c29) (m_charWide := cw210) (m_trail := m_trail) (m_isMatch := m_isMatch) (m_matchGroups := m_matchGroups) (m_allFrom := m_allFrom) (m_allBefore := m_allBefore) (m_founds := m_founds) (m_pieces := m_pieces) (m_writtenMany := m_writtenMany) (m_templateWide := m_templateWide) (m_tooMuch := m_tooMuch) (A_entry := A_entry) (CN := NO26) (x := x) (wh := wh) (an := an) (s := s) (G0 := G5) (is_ := 1) (p := 1) (by omega) (by omega) (by omega) (Int.toNat (m_length + 1 - 1) + 1) h80 h134 h113 (by omega) (by omega) (wiI_1 hq15) fx.rf rfl rfl (by omega) (fun G17 i218 hq19 hq20 hfk hlk hsk => ?_)
            · have h80 := hfk.get h80 (by decide)
              have h134 := hfk.get h134 (by decide)
              have h137 := hfk.get h137 (by decide)
              have h112 := hfk.get h112 (by decide)
              have h114 := hfk.get h114 (by decide)
              have h116 := hfk.get h116 (by decide)
              have h118 := hfk.get h118 (by decide)
              have h119 := hfk.get h119 (by decide)
              have h120 := hfk.get h120 (by decide)
              have h121 := hfk.get h121 (by decide)
              have h122 := hfk.get h122 (by decide)
              have h123 := hfk.get h123 (by decide)
              have h124 := hfk.get h124 (by decide)
              have h85 := hfk.get h85 (by decide)
              have h117 := hfk.get h117 (by decide)
              have h113 := hfk.get h113 (by decide)
              have hfr := hfr.tr hfk (by decide)
              have hlen := hlk.trans hlen
              have hsl := hsk.trans hsl
              change ab_W _ _ _ G17 117 [some (vR 80), some (vz x), some (vz wh), some (vz an), some (vz s), some (vz i218), none] [] _
              have hwe_ := wiE_ex (ntK_of (fun k a c => jsb k a (by omega)) hp5_ hq12 hq13 (by omega) (by omega)) hp6_ (fun k a c => jsb k a (by omega)) (by omega) (by omega) (by omega) hq20
              refine ab_iload d_MO_which_117 rfl ?_
              refine zz_if_eq (tgt := 131) d_MO_which_119 (by decide) (by omega) (fun c21 => ?_) (fun c21 => ?_)
              · refine ab_iload_n d_MO_which_131 rfl ?_
                refine ab_istore_n d_MO_which_132 (Nat.le_of_ble_eq_true rfl) (Nat.le_of_ble_eq_true rfl) rfl ?_
                change ab_W _ _ _ G17 133 [some (vR 80), some (vz x), some (vz wh), some (vz an), some (vz s), some (vz i218), none] [] _
                refine zz_iinc d_MO_which_133 rfl (Nat.le_of_ble_eq_true rfl) (Nat.le_of_ble_eq_true rfl) rfl ?_
                change ab_W _ _ _ G17 136 [some (vR 80), some (vz x), some (vz wh), some (vz an), some (vz (s + 1)), some (vz i218), none] [] _
                refine ab_goto (tgt := 10) d_MO_which_136 (by decide) ?_
                refine ab_less (L' := [some (vR 80), some (vz x), some (vz wh), some (vz an), some (vz (s + 1)), none, none]) (fun i v h => by rcases i with _ | _ | _ | _ | _ | _ | _ | i <;> first | exact h | (simp at h)) ?_
                exact ih (an := an) (s := (s + 1)) (m_wide := w28) (m_charAt := c29) (m_charWide := cw210) (CN := NO26) (ZN := Z27) h80 h134 h137 h112 h114 h116 h118 h119 h120 h121 h122 h123 h124 h85 h117 h113 (by omega) hq11 (whI_n jan (by omega) (whS_n hwe_ (by omega))) hfr hlen hsl (by omega) hk0
              · refine ab_iload_n d_MO_which_122 rfl ?_
                refine zz_iconst d_MO_which_123 ?_
                refine ab_iload d_MO_which_124 rfl ?_
                refine zz_shl1 d_MO_which_126 (by omega) ?_
                refine zz_iortw d_MO_which_127 ?_
                change ab_W _ _ _ G17 128 [some (vR 80), some (vz x), some (vz wh), some (vz an), some (vz s), some (vz i218), none] [vz (stb an s)] _
                refine ab_goto (tgt := 132) d_MO_which_128 (by decide) ?_
                refine ab_istore_n d_MO_which_132 (Nat.le_of_ble_eq_true rfl) (Nat.le_of_ble_eq_true rfl) rfl ?_
                change ab_W _ _ _ G17 133 [some (vR 80), some (vz x), some (vz wh), some (vz (stb an s)), some (vz s), some (vz i218), none] [] _
                refine zz_iinc d_MO_which_133 rfl (Nat.le_of_ble_eq_true rfl) (Nat.le_of_ble_eq_true rfl) rfl ?_
                change ab_W _ _ _ G17 136 [some (vR 80), some (vz x), some (vz wh), some (vz (stb an s)), some (vz (s + 1)), some (vz i218), none] [] _
                refine ab_goto (tgt := 10) d_MO_which_136 (by decide) ?_
                refine ab_less (L' := [some (vR 80), some (vz x), some (vz wh), some (vz (stb an s)), some (vz (s + 1)), none, none]) (fun i v h => by rcases i with _ | _ | _ | _ | _ | _ | _ | i <;> first | exact h | (simp at h)) ?_
                exact ih (an := (stb an s)) (s := (s + 1)) (m_wide := w28) (m_charAt := c29) (m_charWide := cw210) (CN := NO26) (ZN := Z27) h80 h134 h137 h112 h114 h116 h118 h119 h120 h121 h122 h123 h124 h85 h117 h113 (by omega) hq11 (whI_y jan (by omega) (whS_y (by omega) (by omega) hp6_.wp (fun k a c => jsb k a (by omega)) hwe_ (by omega))) hfr hlen hsl (by omega) hk0
          · cases hv
            rw [hGe]
            change ab_W _ _ _ G5 70 [some (vR 80), some (vz x), some (vz wh), some (vz an), some (vz s), none, none] [vz 0] _
            refine ab_istore d_MO_which_70 (Nat.le_of_ble_eq_true rfl) (Nat.le_of_ble_eq_true rfl) rfl ?_
            change ab_W _ _ _ G5 72 [some (vR 80), some (vz x), some (vz wh), some (vz an), some (vz s), some (vz 0), none] [] _
            refine zz_iconst d_MO_which_72 ?_
            refine ab_istore d_MO_which_73 (Nat.le_of_ble_eq_true rfl) (Nat.le_of_ble_eq_true rfl) rfl ?_
            change ab_W _ _ _ G5 75 [some (vR 80), some (vz x), some (vz wh), some (vz an), some (vz s), some (vz 0), some (vz 1)] [] _
            refine y_MO_which_75 (m_thrown := m_thrown) (m_taped := m_taped) (m_length := m_length) (m_out := m_out) (m_wide := w28) (m_gathered := m_gathered) (m_sets := m_sets) (m_ranges := m_ranges) (m_nodes := m_nodes) (m_at := m_at) (m_flags := m_flags) (m_fault := m_fault) (m_place := m_place) (m_numbered := m_numbered) (m_depth := m_depth) (m_value := m_value) (m_isNot := m_isNot) (m_least0 := m_least0) (m_most0 := m_most0) (m_slot := m_slot) (m_work := m_work) (m_got := m_got) (m_rowMany := m_rowMany) (m_charAt := c29) (m_charWide := cw210) (m_trail := m_trail) (m_isMatch := m_isMatch) (m_matchGroups := m_matchGroups) (m_allFrom := m_allFrom) (m_allBefore := m_allBefore) (m_founds := m_founds) (m_pieces := m_pieces) (m_writtenMany := m_writtenMany) (m_templateWide := m_templateWide) (m_tooMuch := m_tooMuch) (A_entry := A_entry) (CN := NO26) (x := x) (wh := wh) (an := an) (s := s) (G0 := G5) (is_ := 0) (p := 1) (by omega) (by omega) (by omega) (Int.toNat (m_length + 1 - 1) + 1) h80 h134 h113 (by omega) (by omega) (wiI_0 hq16) fx.rf rfl rfl (by omega) (fun G22 i223 hq24 hq25 hfk hlk hsk => ?_)
            · have h80 := hfk.get h80 (by decide)
              have h134 := hfk.get h134 (by decide)
              have h137 := hfk.get h137 (by decide)
              have h112 := hfk.get h112 (by decide)
              have h114 := hfk.get h114 (by decide)
              have h116 := hfk.get h116 (by decide)
              have h118 := hfk.get h118 (by decide)
              have h119 := hfk.get h119 (by decide)
              have h120 := hfk.get h120 (by decide)
              have h121 := hfk.get h121 (by decide)
              have h122 := hfk.get h122 (by decide)
              have h123 := hfk.get h123 (by decide)
              have h124 := hfk.get h124 (by decide)
              have h85 := hfk.get h85 (by decide)
              have h117 := hfk.get h117 (by decide)
              have h113 := hfk.get h113 (by decide)
              have hfr := hfr.tr hfk (by decide)
              have hlen := hlk.trans hlen
              have hsl := hsk.trans hsl
              change ab_W _ _ _ G22 117 [some (vR 80), some (vz x), some (vz wh), some (vz an), some (vz s), some (vz i223), none] [] _
              have hwe_ := wiE_ex (ntK_of (fun k a c => jsb k a (by omega)) hp5_ hq12 hq13 (by omega) (by omega)) hp6_ (fun k a c => jsb k a (by omega)) (by omega) (by omega) (by omega) hq25
              refine ab_iload d_MO_which_117 rfl ?_
              refine zz_if_eq (tgt := 131) d_MO_which_119 (by decide) (by omega) (fun c26 => ?_) (fun c26 => ?_)
              · refine ab_iload_n d_MO_which_131 rfl ?_
                refine ab_istore_n d_MO_which_132 (Nat.le_of_ble_eq_true rfl) (Nat.le_of_ble_eq_true rfl) rfl ?_
                change ab_W _ _ _ G22 133 [some (vR 80), some (vz x), some (vz wh), some (vz an), some (vz s), some (vz i223), none] [] _
                refine zz_iinc d_MO_which_133 rfl (Nat.le_of_ble_eq_true rfl) (Nat.le_of_ble_eq_true rfl) rfl ?_
                change ab_W _ _ _ G22 136 [some (vR 80), some (vz x), some (vz wh), some (vz an), some (vz (s + 1)), some (vz i223), none] [] _
                refine ab_goto (tgt := 10) d_MO_which_136 (by decide) ?_
                refine ab_less (L' := [some (vR 80), some (vz x), some (vz wh), some (vz an), some (vz (s + 1)), none, none]) (fun i v h => by rcases i with _ | _ | _ | _ | _ | _ | _ | i <;> first | exact h | (simp at h)) ?_
                exact ih (an := an) (s := (s + 1)) (m_wide := w28) (m_charAt := c29) (m_charWide := cw210) (CN := NO26) (ZN := Z27) h80 h134 h137 h112 h114 h116 h118 h119 h120 h121 h122 h123 h124 h85 h117 h113 (by omega) hq11 (whI_n jan (by omega) (whS_n hwe_ (by omega))) hfr hlen hsl (by omega) hk0
              · refine ab_iload_n d_MO_which_122 rfl ?_
                refine zz_iconst d_MO_which_123 ?_
                refine ab_iload d_MO_which_124 rfl ?_
                refine zz_shl1 d_MO_which_126 (by omega) ?_
                refine zz_iortw d_MO_which_127 ?_
                change ab_W _ _ _ G22 128 [some (vR 80), some (vz x), some (vz wh), some (vz an), some (vz s), some (vz i223), none] [vz (stb an s)] _
                refine ab_goto (tgt := 132) d_MO_which_128 (by decide) ?_
                refine ab_istore_n d_MO_which_132 (Nat.le_of_ble_eq_true rfl) (Nat.le_of_ble_eq_true rfl) rfl ?_
                change ab_W _ _ _ G22 133 [some (vR 80), some (vz x), some (vz wh), some (vz (stb an s)), some (vz s), some (vz i223), none] [] _
                refine zz_iinc d_MO_which_133 rfl (Nat.le_of_ble_eq_true rfl) (Nat.le_of_ble_eq_true rfl) rfl ?_
                change ab_W _ _ _ G22 136 [some (vR 80), some (vz x), some (vz wh), some (vz (stb an s)), some (vz (s + 1)), some (vz i223), none] [] _
                refine ab_goto (tgt := 10) d_MO_which_136 (by decide) ?_
                refine ab_less (L' := [some (vR 80), some (vz x), some (vz wh), some (vz (stb an s)), some (vz (s + 1)), none, none]) (fun i v h => by rcases i with _ | _ | _ | _ | _ | _ | _ | i <;> first | exact h | (simp at h)) ?_
                exact ih (an := (stb an s)) (s := (s + 1)) (m_wide := w28) (m_charAt := c29) (m_charWide := cw210) (CN := NO26) (ZN := Z27) h80 h134 h137 h112 h114 h116 h118 h119 h120 h121 h122 h123 h124 h85 h117 h113 (by omega) hq11 (whI_y jan (by omega) (whS_y (by omega) (by omega) hp6_.wp (fun k a c => jsb k a (by omega)) hwe_ (by omega))) hfr hlen hsl (by omega) hk0
        · refine ab_goto (tgt := 133) d_MO_which_36 (by decide) ?_
          refine zz_iinc d_MO_which_133 rfl (Nat.le_of_ble_eq_true rfl) (Nat.le_of_ble_eq_true rfl) rfl ?_
          change ab_W _ _ _ G 136 [some (vR 80), some (vz x), some (vz wh), some (vz an), some (vz (s + 1)), none, none] [] _
          refine ab_goto (tgt := 10) d_MO_which_136 (by decide) ?_
          exact ih (an := an) (s := (s + 1)) (m_wide := m_wide) (m_charAt := m_charAt) (m_charWide := m_charWide) (CN := CN) (ZN := ZN) h80 h134 h137 h112 h114 h116 h118 h119 h120 h121 h122 h123 h124 h85 h117 h113 (by omega) jn (whI_n jan (by omega) (by first | exact whS_x (by omega) | exact whS_0 (by omega))) hfr hlen hsl (by omega) hk0
set_option maxRecDepth 100000 in
set_option maxHeartbeats 4000000 in
theorem z_MO_which {X : ab_X} {d : Nat} {o : Nat → Nat} {G : ab_G} {m_thrown : Int} {m_taped : Int} {m_length : Int} {m_out : Int} {m_wide : Int} {m_gathered : Int} {m_sets : Int} {m_ranges : Int} {m_nodes : Int} {m_at : Int} {m_flags : Int} {m_fault : Int} {m_place : Int} {m_numbered : Int} {m_depth : Int} {m_value : Int} {m_isNot : Int} {m_least0 : Int} {m_most0 : Int} {m_slot : Int} {m_work : Int} {m_got : Int} {m_rowMany : Int} {m_charAt : Int} {m_charWide : Int} {m_trail : Int} {m_isMatch : Int} {m_matchGroups : Int} {m_allFrom : Int} {m_allBefore : Int} {m_founds : Int} {m_pieces : Int} {m_writtenMany : Int} {m_templateWide : Int} {m_tooMuch : Int} {A_there : Int → Int} {A_groupsOf : Int → Int} {A_flagsOf : Int → Int} {A_step : Int → Int} {A_next : Int → Int} {A_more : Int → Int} {A_classAt : Int → Int} {A_classMany : Int → Int} {A_classLow : Int → Int} {A_classHigh : Int → Int} {A_subject : Int → Int} {A_stepMany : Int → Int} {A_entry : Int → Int} {CN : Int → Int} {ZN : Int → Int} {x : Int} {wh : Int} {V6 : Int → Sn} (h80 : cc o G 80 280 (ab_ob 12 (mof m_thrown m_taped m_length m_out m_wide m_gathered m_sets m_ranges m_nodes m_at m_flags m_fault m_place m_numbered m_depth m_value m_isNot m_least0 m_most0 m_slot m_work m_got m_rowMany m_charAt m_charWide m_trail m_isMatch m_matchGroups m_allFrom m_allBefore m_founds m_pieces m_writtenMany m_templateWide m_tooMuch))) (h134 : cc o G 134 334 (zl 392196 CN)) (h137 : cc o G 137 337 (zb 12500 ZN)) (h112 : cc o G 112 312 (zb 6 A_there)) (h114 : cc o G 114 314 (za 6 A_groupsOf)) (h116 : cc o G 116 316 (za 6 A_flagsOf)) (h118 : cc o G 118 318 (za 75000 A_step)) (h119 : cc o G 119 319 (za 75000 A_next)) (h120 : cc o G 120 320 (za 75000 A_more)) (h121 : cc o G 121 321 (za 75000 A_classAt)) (h122 : cc o G 122 322 (za 75000 A_classMany)) (h123 : cc o G 123 323 (za 3600 A_classLow)) (h124 : cc o G 124 324 (za 3600 A_classHigh)) (h85 : cc o G 85 285 (za 2000 A_subject)) (h117 : cc o G 117 317 (za 6 A_stepMany)) (h113 : cc o G 113 313 (za 6 A_entry)) (n18 : ab_n0 = 18) (cle : 0 ≤ m_length ∧ m_length ≤ 2000) (jth : rgs A_there 6 0 1) (jpg : mpg A_there A_step A_next A_more A_classAt A_classMany A_stepMany A_entry A_groupsOf A_flagsOf) (jst : rgs A_step 75000 0 6) (jcl : rgs A_classLow 3600 0 1114111) (jch : rgs A_classHigh 3600 0 1114111) (jsb : rgs A_subject 2000 0 255) (cwh : 0 ≤ wh ∧ wh ≤ 1) (cx : -2147483648 ≤ x ∧ x ≤ 2147483647) (jn : rgs ZN 12500 0 1) (jpm : mpm A_there A_step A_next A_more A_classAt A_classMany A_classLow A_classHigh A_stepMany A_entry V6) (hd : 8 ≤ d) : ab_F X d y_MO_which (.code y_MO_which b_MO_which 7 (some (.int))) [vR 80, vz x, vz wh] G (fun oc G2 => ∃ w2 : Int, ∃ c2 : Int, ∃ cw2 : Int, ∃ CN2 : Int → Int, ∃ ZN2 : Int → Int, ∃ a2 : Int, oc = .returned (some (vz a2)) ∧ fx o o [280, 334, 337] G G2 ∧ G2.length = G.length ∧ ab_slots G2 = ab_slots G ∧ cc o G2 80 280 (ab_ob 12 (mof 0 m_taped m_length m_out w2 m_gathered m_sets m_ranges m_nodes m_at m_flags m_fault m_place m_numbered m_depth m_value m_isNot m_least0 m_most0 m_slot m_work m_got m_rowMany c2 cw2 m_trail m_isMatch m_matchGroups m_allFrom m_allBefore m_founds m_pieces m_writtenMany m_templateWide m_tooMuch)) ∧ cc o G2 134 334 (zl 392196 CN2) ∧ cc o G2 137 337 (zb 12500 ZN2) ∧ (rgs ZN2 12500 0 1) ∧ (whX A_there V6 A_subject m_length x wh a2)) := by
  refine ab_F_of (by decide +kernel) (Nat.le_of_ble_eq_true rfl) ?_
  obtain ⟨Q, hQ⟩ : ∃ z : Outcome → ab_G → Prop, z = (fun oc G2 => ∃ w2 : Int, ∃ c2 : Int, ∃ cw2 : Int, ∃ CN2 : Int → Int, ∃ ZN2 : Int → Int, ∃ a2 : Int, oc = .returned (some (vz a2)) ∧ fx o o [280, 334, 337] G G2 ∧ G2.length = G.length ∧ ab_slots G2 = ab_slots G ∧ cc o G2 80 280 (ab_ob 12 (mof 0 m_taped m_length m_out w2 m_gathered m_sets m_ranges m_nodes m_at m_flags m_fault m_place m_numbered m_depth m_value m_isNot m_least0 m_most0 m_slot m_work m_got m_rowMany c2 cw2 m_trail m_isMatch m_matchGroups m_allFrom m_allBefore m_founds m_pieces m_writtenMany m_templateWide m_tooMuch)) ∧ cc o G2 134 334 (zl 392196 CN2) ∧ cc o G2 137 337 (zb 12500 ZN2) ∧ (rgs ZN2 12500 0 1) ∧ (whX A_there V6 A_subject m_length x wh a2)) := ⟨_, rfl⟩
  rw [← hQ]
  change ab_W X (ab_pl y_MO_which b_MO_which 7 (some (.int))) d G 0 [some (vR 80), some (vz x), some (vz wh), none, none, none, none] [] Q
  have hfr : fx o o [280, 334, 337] G G := fx.rf
  have hlen : G.length = G.length := rfl
  have hsl : ab_slots G = ab_slots G := rfl
  refine ab_aload_n d_MO_which_0 rfl ?_
  refine zz_iconst d_MO_which_1 ?_
  refine ab_putf (fs := mof m_thrown m_taped m_length m_out m_wide m_gathered m_sets m_ranges m_nodes m_at m_flags m_fault m_place m_numbered m_depth m_value m_isNot m_least0 m_most0 m_slot m_work m_got m_rowMany m_charAt m_charWide m_trail m_isMatch m_matchGroups m_allFrom m_allBefore m_founds m_pieces m_writtenMany m_templateWide m_tooMuch) f_MO_220 (Or.inl rfl) d_MO_which_2 h80.2.2 (Nat.le_of_ble_eq_true rfl) (fun _ => ⟨rfl, rfl⟩) (h80.2.1 (by decide)) ?_
  obtain ⟨G1, eG1⟩ : ∃ z : ab_G, z = List.set G 80 (ab_ob 12 (mof 0 m_taped m_length m_out m_wide m_gathered m_sets m_ranges m_nodes m_at m_flags m_fault m_place m_numbered m_depth m_value m_isNot m_least0 m_most0 m_slot m_work m_got m_rowMany m_charAt m_charWide m_trail m_isMatch m_matchGroups m_allFrom m_allBefore m_founds m_pieces m_writtenMany m_templateWide m_tooMuch)) := ⟨_, rfl⟩
  have h134 := h134.keep h80 eG1 (by decide)
  have h137 := h137.keep h80 eG1 (by decide)
  have h112 := h112.keep h80 eG1 (by decide)
  have h114 := h114.keep h80 eG1 (by decide)
  have h116 := h116.keep h80 eG1 (by decide)
  have h118 := h118.keep h80 eG1 (by decide)
  have h119 := h119.keep h80 eG1 (by decide)
  have h120 := h120.keep h80 eG1 (by decide)
  have h121 := h121.keep h80 eG1 (by decide)
  have h122 := h122.keep h80 eG1 (by decide)
  have h123 := h123.keep h80 eG1 (by decide)
  have h124 := h124.keep h80 eG1 (by decide)
  have h85 := h85.keep h80 eG1 (by decide)
  have h117 := h117.keep h80 eG1 (by decide)
  have h113 := h113.keep h80 eG1 (by decide)
  have hlen := (z_len eG1).trans hlen
  have hsl := (z_sl h80 eG1 rfl).trans hsl
  have hfr := hfr.wr h80 eG1 (by decide)
  have h80 := h80.kept eG1
  change ab_W _ _ _ (List.set G 80 (ab_ob 12 (mof 0 m_taped m_length m_out m_wide m_gathered m_sets m_ranges m_nodes m_at m_flags m_fault m_place m_numbered m_depth m_value m_isNot m_least0 m_most0 m_slot m_work m_got m_rowMany m_charAt m_charWide m_trail m_isMatch m_matchGroups m_allFrom m_allBefore m_founds m_pieces m_writtenMany m_templateWide m_tooMuch))) 5 [some (vR 80), some (vz x), some (vz wh), none, none, none, none] [] _
  rw [← eG1]
  refine zz_iconst d_MO_which_5 ?_
  refine ab_istore_n d_MO_which_6 (Nat.le_of_ble_eq_true rfl) (Nat.le_of_ble_eq_true rfl) rfl ?_
  change ab_W _ _ _ G1 7 [some (vR 80), some (vz x), some (vz wh), some (vz 0), none, none, none] [] _
  refine zz_iconst d_MO_which_7 ?_
  refine ab_istore d_MO_which_8 (Nat.le_of_ble_eq_true rfl) (Nat.le_of_ble_eq_true rfl) rfl ?_
  change ab_W _ _ _ G1 10 [some (vR 80), some (vz x), some (vz wh), some (vz 0), some (vz 0), none, none] [] _
  refine y_MO_which_10 (m_thrown := 0) (m_taped := m_taped) (m_length := m_length) (m_out := m_out) (m_gathered := m_gathered) (m_sets := m_sets) (m_ranges := m_ranges) (m_nodes := m_nodes) (m_at := m_at) (m_flags := m_flags) (m_fault := m_fault) (m_place := m_place) (m_numbered := m_numbered) (m_depth := m_depth) (m_value := m_value) (m_isNot := m_isNot) (m_least0 := m_least0) (m_most0 := m_most0) (m_slot := m_slot) (m_work := m_work) (m_got := m_got) (m_rowMany := m_rowMany) (m_trail := m_trail) (m_isMatch := m_isMatch) (m_matchGroups := m_matchGroups) (m_allFrom := m_allFrom) (m_allBefore := m_allBefore) (m_founds := m_founds) (m_pieces := m_pieces) (m_writtenMany := m_writtenMany) (m_templateWide := m_templateWide) (m_tooMuch := m_tooMuch) (A_there := A_there) (A_groupsOf := A_groupsOf) (A_flagsOf := A_flagsOf) (A_step := A_step) (A_next := A_next) (A_more := A_more) (A_classAt := A_classAt) (A_classMany := A_classMany) (A_classLow := A_classLow) (A_classHigh := A_classHigh) (A_subject := A_subject) (A_stepMany := A_stepMany) (A_entry := A_entry) (x := x) (wh := wh) (G0 := G1) (an := 0) (s := 0) (m_wide := m_wide) (m_charAt := m_charAt) (m_charWide := m_charWide) (CN := CN) (ZN := ZN) (by omega) (by omega) jth jpg jst jcl jch jsb (by omega) (by omega) jpm (by omega) (Int.toNat (6 - 0) + 1) h80 h134 h137 h112 h114 h116 h118 h119 h120 h121 h122 h123 h124 h85 h117 h113 (by omega) jn rfl fx.rf rfl rfl (by omega) (fun G2 w23 c24 cw25 CN26 ZN27 a28 hN80 hN134 hN137 hq9 hq10 hfk hlk hsk => ?_)
  · have h112 := hfk.get h112 (by decide)
    have h114 := hfk.get h114 (by decide)
    have h116 := hfk.get h116 (by decide)
    have h118 := hfk.get h118 (by decide)
    have h119 := hfk.get h119 (by decide)
    have h120 := hfk.get h120 (by decide)
    have h121 := hfk.get h121 (by decide)
    have h122 := hfk.get h122 (by decide)
    have h123 := hfk.get h123 (by decide)
    have h124 := hfk.get h124 (by decide)
    have h85 := hfk.get h85 (by decide)
    have h117 := hfk.get h117 (by decide)
    have h113 := hfk.get h113 (by decide)
    have hfr := hfr.tr hfk (by decide)
    have hlen := hlk.trans hlen
    have hsl := hsk.trans hsl
    have h80 := hN80
    have h134 := hN134
    have h137 := hN137
    change ab_W _ _ _ G2 139 [none, none, none, some (vz a28), none, none, none] [] _
    refine ab_iload_n d_MO_which_139 rfl ?_
    refine zz_iret rfl d_MO_which_140 ?_
    rw [hQ]; exact ⟨_, _, _, _, _, _, rfl, hfr, hlen, hsl, h80, h134, h137, (by first | exact hq9 | exact rgs_w hq9 (by omega)), (by exact hq10)⟩
