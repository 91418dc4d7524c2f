set_option maxRecDepth 100000 in
set_option maxHeartbeats 4000000 in
theorem y_MO_replace_156 {X : ab_X} {d : Nat} {Q : Outcome → ab_G → Prop} {o : Nat → Nat} {G0 : ab_G} {m_thrown : Int} {m_taped : Int} {m_length : Int} {m_out : Int} {m_wide : Int} {m_gathered : Int} {m_sets : Int} {m_ranges : Int} {m_nodes : Int} {m_at : Int} {m_flags : Int} {m_fault : Int} {m_place : Int} {m_numbered : Int} {m_depth : Int} {m_value : Int} {m_isNot : Int} {m_least0 : Int} {m_most0 : Int} {m_slot : Int} {m_work : Int} {m_got : Int} {m_rowMany : Int} {m_charAt : Int} {m_charWide : Int} {m_trail : Int} {m_isMatch : Int} {m_matchGroups : Int} {m_allFrom : Int} {m_allBefore : Int} {m_founds : Int} {m_pieces : Int} {m_writtenMany : Int} {m_templateWide : Int} {m_tooMuch : Int} {WR : Int → Int} (n18 : ab_n0 = 18) (co : 0 ≤ m_out ∧ m_out ≤ 6000) (hd : 1 ≤ d) : ∀ (mz : Nat) {G : ab_G} {i_ : Int} {A_output : Int → Int}, (cc o G 80 280 (ab_ob 12 (mof m_thrown m_taped m_length m_out m_wide m_gathered m_sets m_ranges m_nodes m_at m_flags m_fault m_place m_numbered m_depth m_value m_isNot m_least0 m_most0 m_slot m_work m_got m_rowMany m_charAt m_charWide m_trail m_isMatch m_matchGroups m_allFrom m_allBefore m_founds m_pieces m_writtenMany m_templateWide m_tooMuch))) → (cc o G 147 347 (za 6000 WR)) → (cc o G 86 286 (za 6000 A_output)) → (0 ≤ i_ ∧ i_ ≤ m_out) → (cpE A_output WR i_) → (fx o o [286] G0 G) → (G.length = G0.length) → (ab_slots G = ab_slots G0) → (Int.toNat (m_out - i_) < mz) → (∀ (G2 : ab_G) (OU2 : Int → Int), (cc o G2 86 286 (za 6000 OU2)) → (cpE OU2 WR m_out) → (fx o o [286] G0 G2) → (G2.length = G0.length) → (ab_slots G2 = ab_slots G0) → ab_W X (ab_pl y_MO_replace b_MO_replace 5 (some (.int))) d G2 185 [some (vR 80), none, none, none, none] [] Q) → ab_W X (ab_pl y_MO_replace b_MO_replace 5 (some (.int))) d G 156 [some (vR 80), none, none, none, some (vz i_)] [] Q := by
  intro mz
  induction mz with
  | zero => intro G i_ A_output h80 h147 h86 ci jcp hfr hlen hsl hm hk0; exact absurd hm (Nat.not_lt_zero _)
  | succ mz ih =>
    intro G i_ A_output h80 h147 h86 ci jcp hfr hlen hsl hm hk0
    refine ab_iload d_MO_replace_156 rfl ?_
    refine ab_aload_n d_MO_replace_158 rfl ?_
    refine ab_getf (fs := mof m_thrown m_taped m_length m_out m_wide m_gathered m_sets m_ranges m_nodes m_at m_flags m_fault m_place m_numbered m_depth m_value m_isNot m_least0 m_most0 m_slot m_work m_got m_rowMany m_charAt m_charWide m_trail m_isMatch m_matchGroups m_allFrom m_allBefore m_founds m_pieces m_writtenMany m_templateWide m_tooMuch) f_MO_618 d_MO_replace_159 h80.2.2 rfl ?_
    refine zz_icmp_ge (tgt := 185) d_MO_replace_162 (by decide) (by omega) (by omega) (fun c1 => ?_) (fun c1 => ?_)
    · refine ab_less (L' := [some (vR 80), none, none, none, none]) (fun i v h => by rcases i with _ | _ | _ | _ | _ | i <;> first | exact h | (simp at h)) ?_
      exact hk0 _ _ h86 (by exact (show i_ = m_out by omega) ▸ jcp) hfr hlen hsl
    · refine ab_aload_n d_MO_replace_165 rfl ?_
      refine ab_getf (fs := mof m_thrown m_taped m_length m_out m_wide m_gathered m_sets m_ranges m_nodes m_at m_flags m_fault m_place m_numbered m_depth m_value m_isNot m_least0 m_most0 m_slot m_work m_got m_rowMany m_charAt m_charWide m_trail m_isMatch m_matchGroups m_allFrom m_allBefore m_founds m_pieces m_writtenMany m_templateWide m_tooMuch) f_MO_25 d_MO_replace_166 h80.2.2 rfl ?_
      refine ab_iload d_MO_replace_169 rfl ?_
      refine ab_aload_n d_MO_replace_171 rfl ?_
      refine ab_getf (fs := mof m_thrown m_taped m_length m_out m_wide m_gathered m_sets m_ranges m_nodes m_at m_flags m_fault m_place m_numbered m_depth m_value m_isNot m_least0 m_most0 m_slot m_work m_got m_rowMany m_charAt m_charWide m_trail m_isMatch m_matchGroups m_allFrom m_allBefore m_founds m_pieces m_writtenMany m_templateWide m_tooMuch) f_MO_217 d_MO_replace_172 h80.2.2 rfl ?_
      refine ab_iload d_MO_replace_175 rfl ?_
      refine zz_iald d_MO_replace_177 h147 (by omega) ?_
      refine zz_iast d_MO_replace_178 h86 (by omega) (h86.2.1 (by decide)) ?_
      obtain ⟨G2, eG2⟩ : ∃ z : ab_G, z = List.set G 86 (za 6000 (zu A_output i_ (WR i_))) := ⟨_, rfl⟩
      have h80 := h80.keep h86 eG2 (by decide)
      have h147 := h147.keep h86 eG2 (by decide)
      have hlen := (z_len eG2).trans hlen
      have hsl := (z_sl h86 eG2 rfl).trans hsl
      have hfr := hfr.wr h86 eG2 (by decide)
      have h86 := h86.kept eG2
      change ab_W _ _ _ (List.set G 86 (za 6000 (zu A_output i_ (WR i_)))) 179 [some (vR 80), none, none, none, some (vz i_)] [] _
      rw [← eG2]
      refine zz_iinc d_MO_replace_179 rfl (Nat.le_of_ble_eq_true rfl) (Nat.le_of_ble_eq_true rfl) rfl ?_
      change ab_W _ _ _ G2 182 [some (vR 80), none, none, none, some (vz (i_ + 1))] [] _
      refine ab_goto (tgt := 156) d_MO_replace_182 (by decide) ?_
      exact ih (i_ := (i_ + 1)) (A_output := (zu A_output i_ (WR i_))) h80 h147 h86 (by omega) (cpE_s jcp) hfr hlen hsl (by omega) hk0
set_option maxRecDepth 100000 in
set_option maxHeartbeats 4000000 in
theorem y_MO_replace_69 {X : ab_X} {d : Nat} {Q : Outcome → ab_G → Prop} {o : Nat → Nat} {G0 : ab_G} {m_thrown : Int} {m_taped : Int} {m_length : Int} {m_out : Int} {m_gathered : Int} {m_sets : Int} {m_ranges : Int} {m_nodes : Int} {m_at : Int} {m_flags : Int} {m_fault : Int} {m_place : Int} {m_numbered : Int} {m_depth : Int} {m_value : Int} {m_isNot : Int} {m_least0 : Int} {m_most0 : Int} {m_slot : Int} {m_work : Int} {m_got : Int} {m_rowMany : Int} {m_isMatch : Int} {m_matchGroups : Int} {m_founds : Int} {m_pieces : Int} {A_tape : Int → Int} {A_nameSize : Int → Int} {A_nameOf : Int → Int} {A_groupsOf : Int → Int} {A_flagsOf : Int → Int} {A_step : Int → Int} {A_next : Int → Int} {A_more : Int → Int} {A_classAt : Int → Int} {A_classMany : Int → Int} {A_classLow : Int → Int} {A_classHigh : Int → Int} {A_subject : Int → Int} {A_stepMany : Int → Int} {A_entry : Int → Int} {CN : Int → Int} {v9 : Sn} {s : Int} {n : Int} {V_ : Int → Prop} {L9 : List Int} (n18 : ab_n0 = 18) (cle : 0 ≤ m_length ∧ m_length ≤ 2000) (cs : 0 ≤ s ∧ s ≤ 5 ∧ 0 ≤ (A_stepMany s) ∧ (A_stepMany s) ≤ 12500) (jsg : sgood A_step A_next A_more A_classAt A_classMany (12500 * s) (A_stepMany s)) (jst : rgs A_step 75000 0 6) (jcl : rgs A_classLow 3600 0 1114111) (jch : rgs A_classHigh 3600 0 1114111) (jsb : rgs A_subject 2000 0 255) (cen : 0 ≤ (A_entry s) ∧ (A_entry s) < (A_stepMany s)) (cfl : 0 ≤ A_flagsOf s ∧ A_flagsOf s ≤ 31) (hnr : nrows A_step A_next A_more A_classAt A_classMany A_classLow A_classHigh A_subject CN m_length (12500 * s) (A_stepMany s) m_length 0 (0 - 1)) (hnt : ntK A_step A_next A_more A_classAt A_classMany A_classLow A_classHigh A_subject CN m_length (12500 * s) (A_stepMany s) m_length 0 0) (jps : prZ A_step A_next A_more A_classAt A_classMany A_classLow A_classHigh s (A_stepMany s) (A_entry s) v9) (jtp : rgs A_tape 2000 0 255) (jns : rgs A_nameSize 60 0 12) (jnm : rgs A_nameOf 720 0 255) (jtg : tgd A_tape A_nameSize A_nameOf A_groupsOf s n V_) (jnd : nmD (gNZ A_nameSize s) (gNM A_nameOf s) (A_groupsOf s)) (jtl : tpL A_tape n (A_groupsOf s) (gNZ A_nameSize s) (gNM A_nameOf s) L9) (cg2 : 0 ≤ n ∧ n ≤ 2000 ∧ 0 ≤ A_groupsOf s ∧ A_groupsOf s ≤ 9) (hd : 10 ≤ d) : ∀ (mz : Nat) {G : ab_G} {m_wide : Int} {m_charAt : Int} {m_charWide : Int} {m_trail : Int} {m_allFrom : Int} {m_allBefore : Int} {m_writtenMany : Int} {m_tooMuch : Int} {m_templateWide : Int} {la : Int} {JU : Int → Int} {CO : Int → Int} {ZN : Int → Int} {ZS : Int → Int} {SP : Int → Int} {PL : Int → Int} {PT : Int → Int} {TS : Int → Int} {TO : Int → Int} {WR : Int → Int}, (cc o G 80 280 (ab_ob 12 (mof m_thrown m_taped m_length m_out m_wide m_gathered m_sets m_ranges m_nodes m_at m_flags m_fault m_place m_numbered m_depth m_value m_isNot m_least0 m_most0 m_slot m_work m_got m_rowMany m_charAt m_charWide m_trail m_isMatch m_matchGroups m_allFrom m_allBefore m_founds m_pieces m_writtenMany m_templateWide m_tooMuch))) → (cc o G 147 347 (za 6000 WR)) → (cc o G 134 334 (zl 392196 CN)) → (cc o G 135 335 (zl 392196 JU)) → (cc o G 136 336 (zl 392196 CO)) → (cc o G 137 337 (zb 12500 ZN)) → (cc o G 144 344 (zb 12500 ZS)) → (cc o G 138 338 (za 20 SP)) → (cc o G 142 342 (za 25000 PL)) → (cc o G 143 343 (za 25000 PT)) → (cc o G 140 340 (za 12500 TS)) → (cc o G 141 341 (za 12500 TO)) → (cc o G 116 316 (za 6 A_flagsOf)) → (cc o G 114 314 (za 6 A_groupsOf)) → (cc o G 84 284 (za 2000 A_tape)) → (cc o G 127 327 (za 60 A_nameSize)) → (cc o G 126 326 (za 720 A_nameOf)) → (cc o G 118 318 (za 75000 A_step)) → (cc o G 119 319 (za 75000 A_next)) → (cc o G 120 320 (za 75000 A_more)) → (cc o G 121 321 (za 75000 A_classAt)) → (cc o G 122 322 (za 75000 A_classMany)) → (cc o G 123 323 (za 3600 A_classLow)) → (cc o G 124 324 (za 3600 A_classHigh)) → (cc o G 85 285 (za 2000 A_subject)) → (cc o G 117 317 (za 6 A_stepMany)) → (cc o G 113 313 (za 6 A_entry)) → (-1 ≤ m_allBefore ∧ m_allBefore ≤ m_allFrom ∧ 0 ≤ m_allFrom ∧ m_allFrom ≤ m_length + 1 ∧ m_allBefore ≤ m_length) → (0 ≤ la ∧ la ≤ m_length) → (0 ≤ m_writtenMany ∧ m_writtenMany ≤ 6000 ∧ 0 ≤ m_tooMuch ∧ m_tooMuch ≤ 1) → (mxA m_allFrom m_allBefore) → (rrI v9 A_subject m_length (1 - A_flagsOf s / 16) L9 m_allBefore WR m_writtenMany m_tooMuch) → (mxA la m_allBefore) → (rgs ZN 12500 0 1) → (rgs ZS 12500 0 1) → (rgs SP 20 (-1) 2000) → (rgs PT 25000 0 12500) → (rgs TS 12500 0 19) → (rgs TO 12500 (-1) 2000) → (fx o o [280, 335, 336, 337, 344, 338, 342, 343, 340, 341, 347] G0 G) → (G.length = G0.length) → (ab_slots G = ab_slots G0) → (Int.toNat (m_length + 1 - m_allBefore) < mz) → (∀ (G2 : ab_G) (w2 : Int) (c2 : Int) (cw2 : Int) (t2 : Int) (JU2 : Int → Int) (CO2 : Int → Int) (ZN2 : Int → Int) (ZS2 : Int → Int) (SP2 : Int → Int) (PL2 : Int → Int) (PT2 : Int → Int) (TS2 : Int → Int) (TO2 : Int → Int) (af2 : Int) (ab2 : Int) (k2 : Int) (tm2 : Int) (tw2 : Int) (la2 : Int) (WR2 : Int → Int), (cc o G2 80 280 (ab_ob 12 (mof m_thrown m_taped m_length m_out w2 m_gathered m_sets m_ranges m_nodes m_at m_flags m_fault m_place m_numbered m_depth m_value m_isNot m_least0 m_most0 m_slot m_work m_got m_rowMany c2 cw2 t2 m_isMatch m_matchGroups af2 ab2 m_founds m_pieces k2 tw2 tm2))) → (cc o G2 135 335 (zl 392196 JU2)) → (cc o G2 136 336 (zl 392196 CO2)) → (cc o G2 137 337 (zb 12500 ZN2)) → (cc o G2 144 344 (zb 12500 ZS2)) → (cc o G2 138 338 (za 20 SP2)) → (cc o G2 142 342 (za 25000 PL2)) → (cc o G2 143 343 (za 25000 PT2)) → (cc o G2 140 340 (za 12500 TS2)) → (cc o G2 141 341 (za 12500 TO2)) → (cc o G2 147 347 (za 6000 WR2)) → (rgs ZN2 12500 0 1) → (rgs ZS2 12500 0 1) → (rgs SP2 20 (-1) 2000) → (rgs PT2 25000 0 12500) → (rgs TS2 12500 0 19) → (rgs TO2 12500 (-1) 2000) → (0 ≤ k2 ∧ k2 ≤ 6000 ∧ 0 ≤ tm2 ∧ tm2 ≤ 1) → (0 ≤ la2 ∧ la2 ≤ m_length) → (rrE v9 A_subject m_length (1 - A_flagsOf s / 16) L9 ab2 SP2 WR2 k2 tm2) → (mxA la2 ab2) → (fx o o [280, 335, 336, 337, 344, 338, 342, 343, 340, 341, 347] G0 G2) → (G2.length = G0.length) → (ab_slots G2 = ab_slots G0) → ab_W X (ab_pl y_MO_replace b_MO_replace 5 (some (.int))) d G2 111 [some (vR 80), none, none, some (vz la2), none] [] Q) → ab_W X (ab_pl y_MO_replace b_MO_replace 5 (some (.int))) d G 69 [some (vR 80), some (vz s), some (vz n), some (vz la), none] [] Q := by
  intro mz
  induction mz with
  | zero => intro G m_wide m_charAt m_charWide m_trail m_allFrom m_allBefore m_writtenMany m_tooMuch m_templateWide la JU CO ZN ZS SP PL PT TS TO WR h80 h147 h134 h135 h136 h137 h144 h138 h142 h143 h140 h141 h116 h114 h84 h127 h126 h118 h119 h120 h121 h122 h123 h124 h85 h117 h113 cab cla cwm jmx jr jla jn jse jsp jpt jts jto hfr hlen hsl hm hk0; exact absurd hm (Nat.not_lt_zero _)
  | succ mz ih =>
    intro G m_wide m_charAt m_charWide m_trail m_allFrom m_allBefore m_writtenMany m_tooMuch m_templateWide la JU CO ZN ZS SP PL PT TS TO WR h80 h147 h134 h135 h136 h137 h144 h138 h142 h143 h140 h141 h116 h114 h84 h127 h126 h118 h119 h120 h121 h122 h123 h124 h85 h117 h113 cab cla cwm jmx jr jla jn jse jsp jpt jts jto hfr hlen hsl hm hk0
    have jr0_ := jr
    obtain ⟨k_, O_, hr_, hw_⟩ := jr0_
    refine ab_aload_n d_MO_replace_69 rfl ?_
    refine ab_getf (fs := mof m_thrown m_taped m_length m_out m_wide m_gathered m_sets m_ranges m_nodes m_at m_flags m_fault m_place m_numbered m_depth m_value m_isNot m_least0 m_most0 m_slot m_work m_got m_rowMany m_charAt m_charWide m_trail m_isMatch m_matchGroups m_allFrom m_allBefore m_founds m_pieces m_writtenMany m_templateWide m_tooMuch) f_MO_597 d_MO_replace_70 h80.2.2 rfl ?_
    refine zz_if_ne (tgt := 111) d_MO_replace_73 (by decide) (by omega) (fun c1 => ?_) (fun c1 => ?_)
    · refine ab_less (L' := [some (vR 80), none, none, some (vz la), none]) (fun i v h => by rcases i with _ | _ | _ | _ | _ | i <;> first | exact h | (simp at h)) ?_
      exact hk0 _ _ _ _ _ _ _ _ _ _ _ _ _ _ _ _ _ _ _ _ _ h80 h135 h136 h137 h144 h138 h142 h143 h140 h141 h147 (by first | exact jn | exact rgs_w jn (by omega)) (by first | exact jse | exact rgs_w jse (by omega)) (by first | exact jsp | exact rgs_w jsp (by omega)) (by first | exact jpt | exact rgs_w jpt (by omega)) (by first | exact jts | exact rgs_w jts (by omega)) (by first | exact jto | exact rgs_w jto (by omega)) (by omega) (by omega) (by exact ⟨jr, Or.inl (by omega)⟩) (by exact jla) hfr hlen hsl
    · refine ab_aload_n d_MO_replace_76 rfl ?_
      refine ab_iload_n d_MO_replace_77 rfl ?_
      refine ab_callV (d' := d - 1) (as := [vz s]) (st := []) (r := _) (z_MO_nextMatch (o := o) (m_thrown := m_thrown) (m_taped := m_taped) (m_length := m_length) (m_out := m_out) (m_wide := m_wide) (m_gathered := m_gathered) (m_sets := m_sets) (m_ranges := m_ranges) (m_nodes := m_nodes) (m_at := m_at) (m_flags := m_flags) (m_fault := m_fault) (m_place := m_place) (m_numbered := m_numbered) (m_depth := m_depth) (m_value := m_value) (m_isNot := m_isNot) (m_least0 := m_least0) (m_most0 := m_most0) (m_slot := m_slot) (m_work := m_work) (m_got := m_got) (m_rowMany := m_rowMany) (m_charAt := m_charAt) (m_charWide := m_charWide) (m_trail := m_trail) (m_isMatch := m_isMatch) (m_matchGroups := m_matchGroups) (m_allFrom := m_allFrom) (m_allBefore := m_allBefore) (m_founds := m_founds) (m_pieces := m_pieces) (m_writtenMany := m_writtenMany) (m_templateWide := m_templateWide) (m_tooMuch := m_tooMuch) (A_flagsOf := A_flagsOf) (A_step := A_step) (A_next := A_next) (A_more := A_more) (A_classAt := A_classAt) (A_classMany := A_classMany) (A_classLow := A_classLow) (A_classHigh := A_classHigh) (A_subject := A_subject) (A_stepMany := A_stepMany) (A_entry := A_entry) (CN := CN) (JU := JU) (CO := CO) (ZN := ZN) (ZS := ZS) (SP := SP) (PL := PL) (PT := PT) (TS := TS) (TO := TO) (s := s) (v9 := v9) h80 h134 h135 h136 h137 h144 h138 h142 h143 h140 h141 h116 h118 h119 h120 h121 h122 h123 h124 h85 h117 h113 (by omega) (by omega) (by omega) jsg jst jcl jch jsb (by omega) (by omega) hnr hnt jps (by omega) jmx jn jse jsp jpt jts jto (by omega)) (fun oc G2 h => by rcases h with ⟨_, _, _, _, _, _, _, _, _, _, _, _, _, _, _, h, _⟩ | ⟨_, _, _, _, _, _, _, _, _, _, _, _, _, _, _, h, _⟩ <;> exact ⟨_, h⟩) (by omega) m_MO_nextMatch ml_MO_585 im_MO_nextMatch se_MO_nextMatch c_MO h80.2.2 (Nat.le_of_ble_eq_true rfl) d_MO_replace_78 rfl ?_
      intro v G2 hq
      rcases hq with ⟨w23, c24, cw25, t26, JU27, CO28, ZN29, ZS210, SP211, PL212, PT213, TS214, TO215, af216, ab217, hv, hfk, hlk, hsk, hN80, hN135, hN136, hN137, hN144, hN138, hN142, hN143, hN140, hN141, hq18, hq19, hq20, hq21, hq22, hq23, hq24, hq25, hq26⟩ | ⟨w227, c228, cw229, t230, JU231, CO232, ZN233, ZS234, SP235, PL236, PT237, TS238, TO239, af240, ab241, hv, hfk, hlk, hsk, hN80, hN135, hN136, hN137, hN144, hN138, hN142, hN143, hN140, hN141, hq42, hq43, hq44, hq45, hq46, hq47, hq48, hq49⟩
      · cases hv
        have h147 := hfk.get h147 (by decide)
        have h134 := hfk.get h134 (by decide)
        have h116 := hfk.get h116 (by decide)
        have h114 := hfk.get h114 (by decide)
        have h84 := hfk.get h84 (by decide)
        have h127 := hfk.get h127 (by decide)
        have h126 := hfk.get h126 (by decide)
        have h118 := hfk.get h118 (by decide)
        have h119 := hfk.get h119 (by decide)
        have h120 := hfk.get h120 (by decide)
        have h121 := hfk.get h121 (by decide)
        have h122 := hfk.get h122 (by decide)
        have h123 := hfk.get h123 (by decide)
        have h124 := hfk.get h124 (by decide)
        have h85 := hfk.get h85 (by decide)
        have h117 := hfk.get h117 (by decide)
        have h113 := hfk.get h113 (by decide)
        have hfr := hfr.tr hfk (by decide)
        have hlen := hlk.trans hlen
        have hsl := hsk.trans hsl
        have h80 := hN80
        have h135 := hN135
        have h136 := hN136
        have h137 := hN137
        have h144 := hN144
        have h138 := hN138
        have h142 := hN142
        have h143 := hN143
        have h140 := hN140
        have h141 := hN141
        change ab_W _ _ _ G2 81 [some (vR 80), some (vz s), some (vz n), some (vz la), none] [vz 1] _
        refine zz_if_eq (tgt := 111) d_MO_replace_81 (by decide) (by decide) (fun c50 => absurd c50 (by decide)) (fun c50 => ?_)
        refine ab_aload_n d_MO_replace_84 rfl ?_
        refine ab_iload_n d_MO_replace_85 rfl ?_
        refine ab_aload_n d_MO_replace_86 rfl ?_
        refine ab_getf (fs := mof m_thrown m_taped m_length m_out w23 m_gathered m_sets m_ranges m_nodes m_at m_flags m_fault m_place m_numbered m_depth m_value m_isNot m_least0 m_most0 m_slot m_work m_got m_rowMany c24 cw25 t26 m_isMatch m_matchGroups af216 ab217 m_founds m_pieces m_writtenMany m_templateWide m_tooMuch) f_MO_190 d_MO_replace_87 h80.2.2 rfl ?_
        refine zz_iconst d_MO_replace_90 ?_
        refine zz_iald d_MO_replace_91 h138 (by omega) ?_
        refine ab_callV (d' := d - 1) (as := [vz la, vz (SP211 0)]) (st := []) (r := _) (z_MO_writeSubject (o := o) (m_thrown := m_thrown) (m_taped := m_taped) (m_length := m_length) (m_out := m_out) (m_wide := w23) (m_gathered := m_gathered) (m_sets := m_sets) (m_ranges := m_ranges) (m_nodes := m_nodes) (m_at := m_at) (m_flags := m_flags) (m_fault := m_fault) (m_place := m_place) (m_numbered := m_numbered) (m_depth := m_depth) (m_value := m_value) (m_isNot := m_isNot) (m_least0 := m_least0) (m_most0 := m_most0) (m_slot := m_slot) (m_work := m_work) (m_got := m_got) (m_rowMany := m_rowMany) (m_charAt := c24) (m_charWide := cw25) (m_trail := t26) (m_isMatch := m_isMatch) (m_matchGroups := m_matchGroups) (m_allFrom := af216) (m_allBefore := ab217) (m_founds := m_founds) (m_pieces := m_pieces) (m_writtenMany := m_writtenMany) (m_templateWide := m_templateWide) (m_tooMuch := m_tooMuch) (A_subject := A_subject) (WR := WR) (a := la) (b := (SP211 0)) (O9 := O_) h80 h147 h85 (by omega) (by omega) (by omega) hw_ (by omega)) (fun oc G2 h => by rcases h with ⟨_, _, _, h, _⟩ <;> exact ⟨_, h⟩) (by omega) m_MO_writeSubject ml_MO_609 im_MO_writeSubject se_MO_writeSubject c_MO h80.2.2 (Nat.le_of_ble_eq_true rfl) d_MO_replace_92 rfl ?_
        intro v G51 hq
        rcases hq with ⟨k252, t253, WR254, hv, hfk, hlk, hsk, hN80, hN147, hq55, hq56⟩
        cases hv
        have h134 := hfk.get h134 (by decide)
        have h135 := hfk.get h135 (by decide)
        have h136 := hfk.get h136 (by decide)
        have h137 := hfk.get h137 (by decide)
        have h144 := hfk.get h144 (by decide)
        have h138 := hfk.get h138 (by decide)
        have h142 := hfk.get h142 (by decide)
        have h143 := hfk.get h143 (by decide)
        have h140 := hfk.get h140 (by decide)
        have h141 := hfk.get h141 (by decide)
        have h116 := hfk.get h116 (by decide)
        have h114 := hfk.get h114 (by decide)
        have h84 := hfk.get h84 (by decide)
        have h127 := hfk.get h127 (by decide)
        have h126 := hfk.get h126 (by decide)
        have h118 := hfk.get h118 (by decide)
        have h119 := hfk.get h119 (by decide)
        have h120 := hfk.get h120 (by decide)
        have h121 := hfk.get h121 (by decide)
        have h122 := hfk.get h122 (by decide)
        have h123 := hfk.get h123 (by decide)
        have h124 := hfk.get h124 (by decide)
        have h85 := hfk.get h85 (by decide)
        have h117 := hfk.get h117 (by decide)
        have h113 := hfk.get h113 (by decide)
        have hfr := hfr.tr hfk (by decide)
        have hlen := hlk.trans hlen
        have hsl := hsk.trans hsl
        have h80 := hN80
        have h147 := hN147
        change ab_W _ _ _ G51 95 [some (vR 80), some (vz s), some (vz n), some (vz la), none] [] _
        refine ab_aload_n d_MO_replace_95 rfl ?_
        refine ab_iload_n d_MO_replace_96 rfl ?_
        refine ab_iload_n d_MO_replace_97 rfl ?_
        refine ab_callV (d' := d - 1) (as := [vz s, vz n]) (st := []) (r := _) (z_MO_writeTemplate (o := o) (m_thrown := m_thrown) (m_taped := m_taped) (m_length := m_length) (m_out := m_out) (m_wide := w23) (m_gathered := m_gathered) (m_sets := m_sets) (m_ranges := m_ranges) (m_nodes := m_nodes) (m_at := m_at) (m_flags := m_flags) (m_fault := m_fault) (m_place := m_place) (m_numbered := m_numbered) (m_depth := m_depth) (m_value := m_value) (m_isNot := m_isNot) (m_least0 := m_least0) (m_most0 := m_most0) (m_slot := m_slot) (m_work := m_work) (m_got := m_got) (m_rowMany := m_rowMany) (m_charAt := c24) (m_charWide := cw25) (m_trail := t26) (m_isMatch := m_isMatch) (m_matchGroups := m_matchGroups) (m_allFrom := af216) (m_allBefore := ab217) (m_founds := m_founds) (m_pieces := m_pieces) (m_writtenMany := k252) (m_templateWide := m_templateWide) (m_tooMuch := t253) (A_tape := A_tape) (A_nameSize := A_nameSize) (A_nameOf := A_nameOf) (A_groupsOf := A_groupsOf) (A_subject := A_subject) (WR := WR254) (SP := SP211) (s := s) (n := n) (V_ := V_) (O9 := (O_ ++ sbR A_subject la (SP211 0))) (L9 := L9) h80 h147 h138 h84 h126 h127 h114 h85 (by omega) (by omega) jtp jns jnm hq20 jtg (by omega) jnd jtl hq56 (by omega)) (fun oc G2 h => by rcases h with ⟨_, _, _, _, h, _⟩ <;> exact ⟨_, h⟩) (by omega) m_MO_writeTemplate ml_MO_615 im_MO_writeTemplate se_MO_writeTemplate c_MO h80.2.2 (Nat.le_of_ble_eq_true rfl) d_MO_replace_98 rfl ?_
        intro v G57 hq
        rcases hq with ⟨k258, t259, WR260, w261, hv, hfk, hlk, hsk, hN80, hN147, hq62, hq63⟩
        cases hv
        have h134 := hfk.get h134 (by decide)
        have h135 := hfk.get h135 (by decide)
        have h136 := hfk.get h136 (by decide)
        have h137 := hfk.get h137 (by decide)
        have h144 := hfk.get h144 (by decide)
        have h138 := hfk.get h138 (by decide)
        have h142 := hfk.get h142 (by decide)
        have h143 := hfk.get h143 (by decide)
        have h140 := hfk.get h140 (by decide)
        have h141 := hfk.get h141 (by decide)
        have h116 := hfk.get h116 (by decide)
        have h114 := hfk.get h114 (by decide)
        have h84 := hfk.get h84 (by decide)
        have h127 := hfk.get h127 (by decide)
        have h126 := hfk.get h126 (by decide)
        have h118 := hfk.get h118 (by decide)
        have h119 := hfk.get h119 (by decide)
        have h120 := hfk.get h120 (by decide)
        have h121 := hfk.get h121 (by decide)
        have h122 := hfk.get h122 (by decide)
        have h123 := hfk.get h123 (by decide)
        have h124 := hfk.get h124 (by decide)
        have h85 := hfk.get h85 (by decide)
        have h117 := hfk.get h117 (by decide)
        have h113 := hfk.get h113 (by decide)
        have hfr := hfr.tr hfk (by decide)
        have hlen := hlk.trans hlen
        have hsl := hsk.trans hsl
        have h80 := hN80
        have h147 := hN147
        change ab_W _ _ _ G57 101 [some (vR 80), some (vz s), some (vz n), some (vz la), none] [] _
        refine ab_aload_n d_MO_replace_101 rfl ?_
        refine ab_getf (fs := mof m_thrown m_taped m_length m_out w23 m_gathered m_sets m_ranges m_nodes m_at m_flags m_fault m_place m_numbered m_depth m_value m_isNot m_least0 m_most0 m_slot m_work m_got m_rowMany c24 cw25 t26 m_isMatch m_matchGroups af216 ab217 m_founds m_pieces k258 w261 t259) f_MO_190 d_MO_replace_102 h80.2.2 rfl ?_
        refine zz_iconst d_MO_replace_105 ?_
        refine zz_iald d_MO_replace_106 h138 (by omega) ?_
        refine ab_istore_n d_MO_replace_107 (Nat.le_of_ble_eq_true rfl) (Nat.le_of_ble_eq_true rfl) rfl ?_
        change ab_W _ _ _ G57 108 [some (vR 80), some (vz s), some (vz n), some (vz (SP211 1)), none] [] _
        refine ab_goto (tgt := 69) d_MO_replace_108 (by decide) ?_
        exact ih (m_wide := w23) (m_charAt := c24) (m_charWide := cw25) (m_trail := t26) (m_allFrom := af216) (m_allBefore := ab217) (m_writtenMany := k258) (m_tooMuch := t259) (m_templateWide := w261) (la := (SP211 1)) (JU := JU27) (CO := CO28) (ZN := ZN29) (ZS := ZS210) (SP := SP211) (PL := PL212) (PT := PT213) (TS := TS214) (TO := TO215) (WR := WR260) h80 h147 h134 h135 h136 h137 h144 h138 h142 h143 h140 h141 h116 h114 h84 h127 h126 h118 h119 h120 h121 h122 h123 h124 h85 h117 h113 (by omega) (by omega) (by omega) (mxA_s (by omega) (by omega)) (rrI_s hr_ hq26 (fun k a c => jsb k a (by omega)) (by omega) jla (tpL_b jtl (fun i a b => (jtp i a (by omega)).1) (by omega)) (by omega) hq63) (mxA_s (by omega) (by omega)) hq18 hq19 hq20 hq21 hq22 hq23 hfr hlen hsl (by omega) hk0
      · cases hv
        have h147 := hfk.get h147 (by decide)
        have h134 := hfk.get h134 (by decide)
        have h116 := hfk.get h116 (by decide)
        have h114 := hfk.get h114 (by decide)
        have h84 := hfk.get h84 (by decide)
        have h127 := hfk.get h127 (by decide)
        have h126 := hfk.get h126 (by decide)
        have h118 := hfk.get h118 (by decide)
        have h119 := hfk.get h119 (by decide)
        have h120 := hfk.get h120 (by decide)
        have h121 := hfk.get h121 (by decide)
        have h122 := hfk.get h122 (by decide)
        have h123 := hfk.get h123 (by decide)
        have h124 := hfk.get h124 (by decide)
        have h85 := hfk.get h85 (by decide)
        have h117 := hfk.get h117 (by decide)
        have h113 := hfk.get h113 (by decide)
        have hfr := hfr.tr hfk (by decide)
        have hlen := hlk.trans hlen
        have hsl := hsk.trans hsl
        have h80 := hN80
        have h135 := hN135
        have h136 := hN136
        have h137 := hN137
        have h144 := hN144
        have h138 := hN138
        have h142 := hN142
        have h143 := hN143
        have h140 := hN140
        have h141 := hN141
        change ab_W _ _ _ G2 81 [some (vR 80), some (vz s), some (vz n), some (vz la), none] [vz 0] _
        refine zz_if_eq (tgt := 111) d_MO_replace_81 (by decide) (by decide) (fun c64 => ?_) (fun c64 => absurd c64 (by decide))
        refine ab_less (L' := [some (vR 80), none, none, some (vz la), none]) (fun i v h => by rcases i with _ | _ | _ | _ | _ | i <;> first | exact h | (simp at h)) ?_
        exact hk0 _ _ _ _ _ _ _ _ _ _ _ _ _ _ _ _ _ _ _ _ _ h80 h135 h136 h137 h144 h138 h142 h143 h140 h141 h147 (by first | exact hq42 | exact rgs_w hq42 (by omega)) (by first | exact hq43 | exact rgs_w hq43 (by omega)) (by first | exact hq44 | exact rgs_w hq44 (by omega)) (by first | exact hq45 | exact rgs_w hq45 (by omega)) (by first | exact hq46 | exact rgs_w hq46 (by omega)) (by first | exact hq47 | exact rgs_w hq47 (by omega)) (by omega) (by omega) (by rw [show ab241 = m_allBefore by omega]; exact ⟨jr, Or.inr hq49⟩) (by rw [show ab241 = m_allBefore by omega]; exact jla) hfr hlen hsl
set_option maxRecDepth 100000 in
set_option maxHeartbeats 4000000 in
theorem z_MO_replace {X : ab_X} {d : Nat} {o : Nat → Nat} {G : ab_G} {m_thrown : Int} {m_taped : Int} {m_length : Int} {m_out : Int} {m_wide : Int} {m_gathered : Int} {m_sets : Int} {m_ranges : Int} {m_nodes : Int} {m_at : Int} {m_flags : Int} {m_fault : Int} {m_place : Int} {m_numbered : Int} {m_depth : Int} {m_value : Int} {m_isNot : Int} {m_least0 : Int} {m_most0 : Int} {m_slot : Int} {m_work : Int} {m_got : Int} {m_rowMany : Int} {m_charAt : Int} {m_charWide : Int} {m_trail : Int} {m_isMatch : Int} {m_matchGroups : Int} {m_allFrom : Int} {m_allBefore : Int} {m_founds : Int} {m_pieces : Int} {m_writtenMany : Int} {m_templateWide : Int} {m_tooMuch : Int} {A_tape : Int → Int} {A_nameSize : Int → Int} {A_nameOf : Int → Int} {A_output : Int → Int} {A_there : Int → Int} {A_groupsOf : Int → Int} {A_flagsOf : Int → Int} {A_step : Int → Int} {A_next : Int → Int} {A_more : Int → Int} {A_classAt : Int → Int} {A_classMany : Int → Int} {A_classLow : Int → Int} {A_classHigh : Int → Int} {A_subject : Int → Int} {A_stepMany : Int → Int} {A_entry : Int → Int} {CN : Int → Int} {JU : Int → Int} {CO : Int → Int} {ZN : Int → Int} {ZS : Int → Int} {SP : Int → Int} {PL : Int → Int} {PT : Int → Int} {TS : Int → Int} {TO : Int → Int} {V6 : Int → Sn} {WR : Int → Int} {s : Int} (h80 : cc o G 80 280 (ab_ob 12 (mof m_thrown m_taped m_length m_out m_wide m_gathered m_sets m_ranges m_nodes m_at m_flags m_fault m_place m_numbered m_depth m_value m_isNot m_least0 m_most0 m_slot m_work m_got m_rowMany m_charAt m_charWide m_trail m_isMatch m_matchGroups m_allFrom m_allBefore m_founds m_pieces m_writtenMany m_templateWide m_tooMuch))) (h147 : cc o G 147 347 (za 6000 WR)) (h86 : cc o G 86 286 (za 6000 A_output)) (h134 : cc o G 134 334 (zl 392196 CN)) (h135 : cc o G 135 335 (zl 392196 JU)) (h136 : cc o G 136 336 (zl 392196 CO)) (h137 : cc o G 137 337 (zb 12500 ZN)) (h144 : cc o G 144 344 (zb 12500 ZS)) (h138 : cc o G 138 338 (za 20 SP)) (h142 : cc o G 142 342 (za 25000 PL)) (h143 : cc o G 143 343 (za 25000 PT)) (h140 : cc o G 140 340 (za 12500 TS)) (h141 : cc o G 141 341 (za 12500 TO)) (h84 : cc o G 84 284 (za 2000 A_tape)) (h127 : cc o G 127 327 (za 60 A_nameSize)) (h126 : cc o G 126 326 (za 720 A_nameOf)) (h112 : cc o G 112 312 (zb 6 A_there)) (h114 : cc o G 114 314 (za 6 A_groupsOf)) (h116 : cc o G 116 316 (za 6 A_flagsOf)) (h118 : cc o G 118 318 (za 75000 A_step)) (h119 : cc o G 119 319 (za 75000 A_next)) (h120 : cc o G 120 320 (za 75000 A_more)) (h121 : cc o G 121 321 (za 75000 A_classAt)) (h122 : cc o G 122 322 (za 75000 A_classMany)) (h123 : cc o G 123 323 (za 3600 A_classLow)) (h124 : cc o G 124 324 (za 3600 A_classHigh)) (h85 : cc o G 85 285 (za 2000 A_subject)) (h117 : cc o G 117 317 (za 6 A_stepMany)) (h113 : cc o G 113 313 (za 6 A_entry)) (n18 : ab_n0 = 18) (cle : 0 ≤ m_length ∧ m_length ≤ 2000) (jth : rgs A_there 6 0 1) (jpg : mpg A_there A_step A_next A_more A_classAt A_classMany A_stepMany A_entry A_groupsOf A_flagsOf) (jst : rgs A_step 75000 0 6) (jcl : rgs A_classLow 3600 0 1114111) (jch : rgs A_classHigh 3600 0 1114111) (jsb : rgs A_subject 2000 0 255) (jtp : rgs A_tape 2000 0 255) (jns : rgs A_nameSize 60 0 12) (jnm : rgs A_nameOf 720 0 255) (cta : 0 ≤ m_taped ∧ m_taped ≤ 2000) (cr : -2147483648 ≤ s ∧ s ≤ 2147483647) (co : 0 ≤ m_out ∧ m_out ≤ 6000 ∧ 0 ≤ m_tooMuch ∧ m_tooMuch ≤ 1 ∧ 0 ≤ m_writtenMany ∧ m_writtenMany ≤ 6000) (jpm : mpm A_there A_step A_next A_more A_classAt A_classMany A_classLow A_classHigh A_stepMany A_entry V6) (jdn : mdn A_there A_nameSize A_nameOf A_groupsOf) (jn : rgs ZN 12500 0 1) (jse : rgs ZS 12500 0 1) (jsp : rgs SP 20 (-1) 2000) (jpt : rgs PT 25000 0 12500) (jts : rgs TS 12500 0 19) (jto : rgs TO 12500 (-1) 2000) (hd : 11 ≤ d) : ab_F X d y_MO_replace (.code y_MO_replace b_MO_replace 5 (some (.int))) [vR 80, vz s] G (fun oc G2 => ∃ v : Int, ∃ th2 : Int, ∃ af2 : Int, ∃ ab2 : Int, ∃ k2 : Int, ∃ tm2 : Int, ∃ tw2 : Int, ∃ ou2 : Int, ∃ tp2 : Int, ∃ w2 : Int, ∃ c2 : Int, ∃ cw2 : Int, ∃ t2 : Int, ∃ JU2 : Int → Int, ∃ CO2 : Int → Int, ∃ ZN2 : Int → Int, ∃ ZS2 : Int → Int, ∃ SP2 : Int → Int, ∃ PL2 : Int → Int, ∃ PT2 : Int → Int, ∃ TS2 : Int → Int, ∃ TO2 : Int → Int, ∃ CN2 : Int → Int, ∃ WR2 : Int → Int, ∃ OU2 : Int → Int, oc = .returned (some (vz v)) ∧ fx o o [280, 334, 335, 336, 337, 344, 338, 342, 343, 340, 341, 347, 286] G G2 ∧ G2.length = G.length ∧ ab_slots G2 = ab_slots G ∧ cc o G2 80 280 (ab_ob 12 (mof th2 tp2 m_length ou2 w2 m_gathered m_sets m_ranges m_nodes m_at m_flags m_fault m_place m_numbered m_depth m_value m_isNot m_least0 m_most0 m_slot m_work m_got m_rowMany c2 cw2 t2 m_isMatch m_matchGroups af2 ab2 m_founds m_pieces k2 tw2 tm2)) ∧ cc o G2 135 335 (zl 392196 JU2) ∧ cc o G2 136 336 (zl 392196 CO2) ∧ cc o G2 137 337 (zb 12500 ZN2) ∧ cc o G2 144 344 (zb 12500 ZS2) ∧ cc o G2 138 338 (za 20 SP2) ∧ cc o G2 142 342 (za 25000 PL2) ∧ cc o G2 143 343 (za 25000 PT2) ∧ cc o G2 140 340 (za 12500 TS2) ∧ cc o G2 141 341 (za 12500 TO2) ∧ cc o G2 134 334 (zl 392196 CN2) ∧ cc o G2 147 347 (za 6000 WR2) ∧ cc o G2 86 286 (za 6000 OU2) ∧ (rgs ZN2 12500 0 1) ∧ (rgs ZS2 12500 0 1) ∧ (rgs SP2 20 (-1) 2000) ∧ (rgs PT2 25000 0 12500) ∧ (rgs TS2 12500 0 19) ∧ (rgs TO2 12500 (-1) 2000) ∧ (0 ≤ ou2 ∧ ou2 ≤ 6000 ∧ 0 ≤ tp2 ∧ tp2 ≤ 2000) ∧ (0 ≤ k2 ∧ k2 ≤ 6000 ∧ 0 ≤ tm2 ∧ tm2 ≤ 1) ∧ (thQ A_there s m_taped tp2) ∧ (rpX A_there A_groupsOf A_flagsOf A_nameSize A_nameOf V6 A_subject m_length A_tape m_taped s v th2 m_out A_output ou2 OU2)) := by
  refine ab_F_of (by decide +kernel) (Nat.le_of_ble_eq_true rfl) ?_
  obtain ⟨Q, hQ⟩ : ∃ z : Outcome → ab_G → Prop, z = (fun oc G2 => ∃ v : Int, ∃ th2 : Int, ∃ af2 : Int, ∃ ab2 : Int, ∃ k2 : Int, ∃ tm2 : Int, ∃ tw2 : Int, ∃ ou2 : Int, ∃ tp2 : Int, ∃ w2 : Int, ∃ c2 : Int, ∃ cw2 : Int, ∃ t2 : Int, ∃ JU2 : Int → Int, ∃ CO2 : Int → Int, ∃ ZN2 : Int → Int, ∃ ZS2 : Int → Int, ∃ SP2 : Int → Int, ∃ PL2 : Int → Int, ∃ PT2 : Int → Int, ∃ TS2 : Int → Int, ∃ TO2 : Int → Int, ∃ CN2 : Int → Int, ∃ WR2 : Int → Int, ∃ OU2 : Int → Int, oc = .returned (some (vz v)) ∧ fx o o [280, 334, 335, 336, 337, 344, 338, 342, 343, 340, 341, 347, 286] G G2 ∧ G2.length = G.length ∧ ab_slots G2 = ab_slots G ∧ cc o G2 80 280 (ab_ob 12 (mof th2 tp2 m_length ou2 w2 m_gathered m_sets m_ranges m_nodes m_at m_flags m_fault m_place m_numbered m_depth m_value m_isNot m_least0 m_most0 m_slot m_work m_got m_rowMany c2 cw2 t2 m_isMatch m_matchGroups af2 ab2 m_founds m_pieces k2 tw2 tm2)) ∧ cc o G2 135 335 (zl 392196 JU2) ∧ cc o G2 136 336 (zl 392196 CO2) ∧ cc o G2 137 337 (zb 12500 ZN2) ∧ cc o G2 144 344 (zb 12500 ZS2) ∧ cc o G2 138 338 (za 20 SP2) ∧ cc o G2 142 342 (za 25000 PL2) ∧ cc o G2 143 343 (za 25000 PT2) ∧ cc o G2 140 340 (za 12500 TS2) ∧ cc o G2 141 341 (za 12500 TO2) ∧ cc o G2 134 334 (zl 392196 CN2) ∧ cc o G2 147 347 (za 6000 WR2) ∧ cc o G2 86 286 (za 6000 OU2) ∧ (rgs ZN2 12500 0 1) ∧ (rgs ZS2 12500 0 1) ∧ (rgs SP2 20 (-1) 2000) ∧ (rgs PT2 25000 0 12500) ∧ (rgs TS2 12500 0 19) ∧ (rgs TO2 12500 (-1) 2000) ∧ (0 ≤ ou2 ∧ ou2 ≤ 6000 ∧ 0 ≤ tp2 ∧ tp2 ≤ 2000) ∧ (0 ≤ k2 ∧ k2 ≤ 6000 ∧ 0 ≤ tm2 ∧ tm2 ≤ 1) ∧ (thQ A_there s m_taped tp2) ∧ (rpX A_there A_groupsOf A_flagsOf A_nameSize A_nameOf V6 A_subject m_length A_tape m_taped s v th2 m_out A_output ou2 OU2)) := ⟨_, rfl⟩
  rw [← hQ]
  change ab_W X (ab_pl y_MO_replace b_MO_replace 5 (some (.int))) d G 0 [some (vR 80), some (vz s), none, none, none] [] Q
  have hfr : fx o o [280, 334, 335, 336, 337, 344, 338, 342, 343, 340, 341, 347, 286] G G := fx.rf
  have hlen : G.length = G.length := rfl
  have hsl : ab_slots G = ab_slots G := rfl
  refine ab_aload_n d_MO_replace_0 rfl ?_
  refine ab_aload_n d_MO_replace_1 rfl ?_
  refine ab_iload_n d_MO_replace_2 rfl ?_
  refine ab_callV (d' := d - 1) (as := [vz s]) (st := [vR 80]) (r := _) (x_MO_isThere (o := o) (m_thrown := m_thrown) (m_taped := m_taped) (m_length := m_length) (m_out := m_out) (m_wide := m_wide) (m_gathered := m_gathered) (m_sets := m_sets) (m_ranges := m_ranges) (m_nodes := m_nodes) (m_at := m_at) (m_flags := m_flags) (m_fault := m_fault) (m_place := m_place) (m_numbered := m_numbered) (m_depth := m_depth) (m_value := m_value) (m_isNot := m_isNot) (m_least0 := m_least0) (m_most0 := m_most0) (m_slot := m_slot) (m_work := m_work) (m_got := m_got) (m_rowMany := m_rowMany) (m_charAt := m_charAt) (m_charWide := m_charWide) (m_trail := m_trail) (m_isMatch := m_isMatch) (m_matchGroups := m_matchGroups) (m_allFrom := m_allFrom) (m_allBefore := m_allBefore) (m_founds := m_founds) (m_pieces := m_pieces) (m_writtenMany := m_writtenMany) (m_templateWide := m_templateWide) (m_tooMuch := m_tooMuch) (A_there := A_there) (x := s) h80 h112 (by omega) jth) (fun oc G2 h => by rcases h with ⟨_, h, _⟩ <;> exact ⟨_, h⟩) (by omega) m_MO_isThere ml_MO_507 im_MO_isThere se_MO_isThere c_MO h80.2.2 (Nat.le_of_ble_eq_true rfl) d_MO_replace_3 rfl ?_
  intro v G1 hq
  rcases hq with ⟨v2, hv, hGe, hq3, hq4, hq5⟩
  cases hv
  rw [hGe]
  change ab_W _ _ _ G 6 [some (vR 80), some (vz s), none, none, none] [vz v2, vR 80] _
  refine zz_if_eq (tgt := 13) d_MO_replace_6 (by decide) (by omega) (fun c6 => ?_) (fun c6 => ?_)
  · refine zz_iconst d_MO_replace_13 ?_
    refine ab_putf (fs := mof m_thrown m_taped m_length m_out m_wide m_gathered m_sets m_ranges m_nodes m_at m_flags m_fault m_place m_numbered m_depth m_value m_isNot m_least0 m_most0 m_slot m_work m_got m_rowMany m_charAt m_charWide m_trail m_isMatch m_matchGroups m_allFrom m_allBefore m_founds m_pieces m_writtenMany m_templateWide m_tooMuch) f_MO_220 (Or.inl rfl) d_MO_replace_14 h80.2.2 (Nat.le_of_ble_eq_true rfl) (fun _ => ⟨rfl, rfl⟩) (h80.2.1 (by decide)) ?_
    obtain ⟨G7, eG7⟩ : ∃ z : ab_G, z = List.set G 80 (ab_ob 12 (mof 1 m_taped m_length m_out m_wide m_gathered m_sets m_ranges m_nodes m_at m_flags m_fault m_place m_numbered m_depth m_value m_isNot m_least0 m_most0 m_slot m_work m_got m_rowMany m_charAt m_charWide m_trail m_isMatch m_matchGroups m_allFrom m_allBefore m_founds m_pieces m_writtenMany m_templateWide m_tooMuch)) := ⟨_, rfl⟩
    have h147 := h147.keep h80 eG7 (by decide)
    have h86 := h86.keep h80 eG7 (by decide)
    have h134 := h134.keep h80 eG7 (by decide)
    have h135 := h135.keep h80 eG7 (by decide)
    have h136 := h136.keep h80 eG7 (by decide)
    have h137 := h137.keep h80 eG7 (by decide)
    have h144 := h144.keep h80 eG7 (by decide)
    have h138 := h138.keep h80 eG7 (by decide)
    have h142 := h142.keep h80 eG7 (by decide)
    have h143 := h143.keep h80 eG7 (by decide)
    have h140 := h140.keep h80 eG7 (by decide)
    have h141 := h141.keep h80 eG7 (by decide)
    have h84 := h84.keep h80 eG7 (by decide)
    have h127 := h127.keep h80 eG7 (by decide)
    have h126 := h126.keep h80 eG7 (by decide)
    have h112 := h112.keep h80 eG7 (by decide)
    have h114 := h114.keep h80 eG7 (by decide)
    have h116 := h116.keep h80 eG7 (by decide)
    have h118 := h118.keep h80 eG7 (by decide)
    have h119 := h119.keep h80 eG7 (by decide)
    have h120 := h120.keep h80 eG7 (by decide)
    have h121 := h121.keep h80 eG7 (by decide)
    have h122 := h122.keep h80 eG7 (by decide)
    have h123 := h123.keep h80 eG7 (by decide)
    have h124 := h124.keep h80 eG7 (by decide)
    have h85 := h85.keep h80 eG7 (by decide)
    have h117 := h117.keep h80 eG7 (by decide)
    have h113 := h113.keep h80 eG7 (by decide)
    have hlen := (z_len eG7).trans hlen
    have hsl := (z_sl h80 eG7 rfl).trans hsl
    have hfr := hfr.wr h80 eG7 (by decide)
    have h80 := h80.kept eG7
    change ab_W _ _ _ (List.set G 80 (ab_ob 12 (mof 1 m_taped m_length m_out m_wide m_gathered m_sets m_ranges m_nodes m_at m_flags m_fault m_place m_numbered m_depth m_value m_isNot m_least0 m_most0 m_slot m_work m_got m_rowMany m_charAt m_charWide m_trail m_isMatch m_matchGroups m_allFrom m_allBefore m_founds m_pieces m_writtenMany m_templateWide m_tooMuch))) 17 [some (vR 80), some (vz s), none, none, none] [] _
    rw [← eG7]
    refine ab_aload_n d_MO_replace_17 rfl ?_
    refine ab_getf (fs := mof 1 m_taped m_length m_out m_wide m_gathered m_sets m_ranges m_nodes m_at m_flags m_fault m_place m_numbered m_depth m_value m_isNot m_least0 m_most0 m_slot m_work m_got m_rowMany m_charAt m_charWide m_trail m_isMatch m_matchGroups m_allFrom m_allBefore m_founds m_pieces m_writtenMany m_templateWide m_tooMuch) f_MO_220 d_MO_replace_18 h80.2.2 rfl ?_
    refine zz_if_le (tgt := 26) d_MO_replace_21 (by decide) (by decide) (fun c8 => absurd c8 (by decide)) (fun c8 => ?_)
    refine zz_iconst d_MO_replace_24 ?_
    refine zz_iret rfl d_MO_replace_25 ?_
    rw [hQ]; exact ⟨_, _, _, _, _, _, _, _, _, _, _, _, _, _, _, _, _, _, _, _, _, _, _, _, _, rfl, hfr, hlen, hsl, h80, h135, h136, h137, h144, h138, h142, h143, h140, h141, h134, h147, h86, (by first | exact jn | exact rgs_w jn (by omega)), (by first | exact jse | exact rgs_w jse (by omega)), (by first | exact jsp | exact rgs_w jsp (by omega)), (by first | exact jpt | exact rgs_w jpt (by omega)), (by first | exact jts | exact rgs_w jts (by omega)), (by first | exact jto | exact rgs_w jto (by omega)), (by omega), (by omega), (by exact Or.inr ⟨hq5 (by omega), rfl⟩), (by exact Or.inr ⟨rfl, Or.inl (hq5 (by omega)), rfl, rfl, rfl⟩)⟩
  · refine zz_iconst d_MO_replace_9 ?_
    refine ab_goto (tgt := 14) d_MO_replace_10 (by decide) ?_
    refine ab_putf (fs := mof m_thrown m_taped m_length m_out m_wide m_gathered m_sets m_ranges m_nodes m_at m_flags m_fault m_place m_numbered m_depth m_value m_isNot m_least0 m_most0 m_slot m_work m_got m_rowMany m_charAt m_charWide m_trail m_isMatch m_matchGroups m_allFrom m_allBefore m_founds m_pieces m_writtenMany m_templateWide m_tooMuch) f_MO_220 (Or.inl rfl) d_MO_replace_14 h80.2.2 (Nat.le_of_ble_eq_true rfl) (fun _ => ⟨rfl, rfl⟩) (h80.2.1 (by decide)) ?_
    obtain ⟨G9, eG9⟩ : ∃ z : ab_G, z = List.set G 80 (ab_ob 12 (mof 0 m_taped m_length m_out m_wide m_gathered m_sets m_ranges m_nodes m_at m_flags m_fault m_place m_numbered m_depth m_value m_isNot m_least0 m_most0 m_slot m_work m_got m_rowMany m_charAt m_charWide m_trail m_isMatch m_matchGroups m_allFrom m_allBefore m_founds m_pieces m_writtenMany m_templateWide m_tooMuch)) := ⟨_, rfl⟩
    have h147 := h147.keep h80 eG9 (by decide)
    have h86 := h86.keep h80 eG9 (by decide)
    have h134 := h134.keep h80 eG9 (by decide)
    have h135 := h135.keep h80 eG9 (by decide)
    have h136 := h136.keep h80 eG9 (by decide)
    have h137 := h137.keep h80 eG9 (by decide)
    have h144 := h144.keep h80 eG9 (by decide)
    have h138 := h138.keep h80 eG9 (by decide)
    have h142 := h142.keep h80 eG9 (by decide)
    have h143 := h143.keep h80 eG9 (by decide)
    have h140 := h140.keep h80 eG9 (by decide)
    have h141 := h141.keep h80 eG9 (by decide)
    have h84 := h84.keep h80 eG9 (by decide)
    have h127 := h127.keep h80 eG9 (by decide)
    have h126 := h126.keep h80 eG9 (by decide)
    have h112 := h112.keep h80 eG9 (by decide)
    have h114 := h114.keep h80 eG9 (by decide)
    have h116 := h116.keep h80 eG9 (by decide)
    have h118 := h118.keep h80 eG9 (by decide)
    have h119 := h119.keep h80 eG9 (by decide)
    have h120 := h120.keep h80 eG9 (by decide)
    have h121 := h121.keep h80 eG9 (by decide)
    have h122 := h122.keep h80 eG9 (by decide)
    have h123 := h123.keep h80 eG9 (by decide)
    have h124 := h124.keep h80 eG9 (by decide)
    have h85 := h85.keep h80 eG9 (by decide)
    have h117 := h117.keep h80 eG9 (by decide)
    have h113 := h113.keep h80 eG9 (by decide)
    have hlen := (z_len eG9).trans hlen
    have hsl := (z_sl h80 eG9 rfl).trans hsl
    have hfr := hfr.wr h80 eG9 (by decide)
    have h80 := h80.kept eG9
    change ab_W _ _ _ (List.set G 80 (ab_ob 12 (mof 0 m_taped m_length m_out m_wide m_gathered m_sets m_ranges m_nodes m_at m_flags m_fault m_place m_numbered m_depth m_value m_isNot m_least0 m_most0 m_slot m_work m_got m_rowMany m_charAt m_charWide m_trail m_isMatch m_matchGroups m_allFrom m_allBefore m_founds m_pieces m_writtenMany m_templateWide m_tooMuch))) 17 [some (vR 80), some (vz s), none, none, none] [] _
    rw [← eG9]
    refine ab_aload_n d_MO_replace_17 rfl ?_
    refine ab_getf (fs := mof 0 m_taped m_length m_out m_wide m_gathered m_sets m_ranges m_nodes m_at m_flags m_fault m_place m_numbered m_depth m_value m_isNot m_least0 m_most0 m_slot m_work m_got m_rowMany m_charAt m_charWide m_trail m_isMatch m_matchGroups m_allFrom m_allBefore m_founds m_pieces m_writtenMany m_templateWide m_tooMuch) f_MO_220 d_MO_replace_18 h80.2.2 rfl ?_
    refine zz_if_le (tgt := 26) d_MO_replace_21 (by decide) (by decide) (fun c10 => ?_) (fun c10 => absurd c10 (by decide))
    obtain ⟨hp1_, hp2_, hp3_, hp4_, hp5_⟩ := jpg s (by omega) (by omega) (hq4 (by omega)).2.2
    have hp6_ := jpm s (by omega) (by omega) (hq4 (by omega)).2.2
    refine ab_aload_n d_MO_replace_26 rfl ?_
    refine ab_getf (fs := mof 0 m_taped m_length m_out m_wide m_gathered m_sets m_ranges m_nodes m_at m_flags m_fault m_place m_numbered m_depth m_value m_isNot m_least0 m_most0 m_slot m_work m_got m_rowMany m_charAt m_charWide m_trail m_isMatch m_matchGroups m_allFrom m_allBefore m_founds m_pieces m_writtenMany m_templateWide m_tooMuch) f_MO_223 d_MO_replace_27 h80.2.2 rfl ?_
    refine ab_istore_n d_MO_replace_30 (Nat.le_of_ble_eq_true rfl) (Nat.le_of_ble_eq_true rfl) rfl ?_
    change ab_W _ _ _ G9 31 [some (vR 80), some (vz s), some (vz m_taped), none, none] [] _
    refine ab_aload_n d_MO_replace_31 rfl ?_
    refine zz_iconst d_MO_replace_32 ?_
    refine ab_putf (fs := mof 0 m_taped m_length m_out m_wide m_gathered m_sets m_ranges m_nodes m_at m_flags m_fault m_place m_numbered m_depth m_value m_isNot m_least0 m_most0 m_slot m_work m_got m_rowMany m_charAt m_charWide m_trail m_isMatch m_matchGroups m_allFrom m_allBefore m_founds m_pieces m_writtenMany m_templateWide m_tooMuch) f_MO_223 (Or.inl rfl) d_MO_replace_33 h80.2.2 (Nat.le_of_ble_eq_true rfl) (fun _ => ⟨rfl, rfl⟩) (h80.2.1 (by decide)) ?_
    obtain ⟨G11, eG11⟩ : ∃ z : ab_G, z = List.set G9 80 (ab_ob 12 (mof 0 0 m_length m_out m_wide m_gathered m_sets m_ranges m_nodes m_at m_flags m_fault m_place m_numbered m_depth m_value m_isNot m_least0 m_most0 m_slot m_work m_got m_rowMany m_charAt m_charWide m_trail m_isMatch m_matchGroups m_allFrom m_allBefore m_founds m_pieces m_writtenMany m_templateWide m_tooMuch)) := ⟨_, rfl⟩
    have h147 := h147.keep h80 eG11 (by decide)
    have h86 := h86.keep h80 eG11 (by decide)
    have h134 := h134.keep h80 eG11 (by decide)
    have h135 := h135.keep h80 eG11 (by decide)
    have h136 := h136.keep h80 eG11 (by decide)
    have h137 := h137.keep h80 eG11 (by decide)
    have h144 := h144.keep h80 eG11 (by decide)
    have h138 := h138.keep h80 eG11 (by decide)
    have h142 := h142.keep h80 eG11 (by decide)
    have h143 := h143.keep h80 eG11 (by decide)
    have h140 := h140.keep h80 eG11 (by decide)
    have h141 := h141.keep h80 eG11 (by decide)
    have h84 := h84.keep h80 eG11 (by decide)
    have h127 := h127.keep h80 eG11 (by decide)
    have h126 := h126.keep h80 eG11 (by decide)
    have h112 := h112.keep h80 eG11 (by decide)
    have h114 := h114.keep h80 eG11 (by decide)
    have h116 := h116.keep h80 eG11 (by decide)
    have h118 := h118.keep h80 eG11 (by decide)
    have h119 := h119.keep h80 eG11 (by decide)
    have h120 := h120.keep h80 eG11 (by decide)
    have h121 := h121.keep h80 eG11 (by decide)
    have h122 := h122.keep h80 eG11 (by decide)
    have h123 := h123.keep h80 eG11 (by decide)
    have h124 := h124.keep h80 eG11 (by decide)
    have h85 := h85.keep h80 eG11 (by decide)
    have h117 := h117.keep h80 eG11 (by decide)
    have h113 := h113.keep h80 eG11 (by decide)
    have hlen := (z_len eG11).trans hlen
    have hsl := (z_sl h80 eG11 rfl).trans hsl
    have hfr := hfr.wr h80 eG11 (by decide)
    have h80 := h80.kept eG11
    change ab_W _ _ _ (List.set G9 80 (ab_ob 12 (mof 0 0 m_length m_out m_wide m_gathered m_sets m_ranges m_nodes m_at m_flags m_fault m_place m_numbered m_depth m_value m_isNot m_least0 m_most0 m_slot m_work m_got m_rowMany m_charAt m_charWide m_trail m_isMatch m_matchGroups m_allFrom m_allBefore m_founds m_pieces m_writtenMany m_templateWide m_tooMuch))) 36 [some (vR 80), some (vz s), some (vz m_taped), none, none] [] _
    rw [← eG11]
    refine ab_aload_n d_MO_replace_36 rfl ?_
    refine ab_iload_n d_MO_replace_37 rfl ?_
    refine ab_iload_n d_MO_replace_38 rfl ?_
    refine ab_callV (d' := d - 1) (as := [vz s, vz m_taped]) (st := []) (r := _) (z_MO_isTemplate (o := o) (m_thrown := 0) (m_taped := 0) (m_length := m_length) (m_out := m_out) (m_wide := m_wide) (m_gathered := m_gathered) (m_sets := m_sets) (m_ranges := m_ranges) (m_nodes := m_nodes) (m_at := m_at) (m_flags := m_flags) (m_fault := m_fault) (m_place := m_place) (m_numbered := m_numbered) (m_depth := m_depth) (m_value := m_value) (m_isNot := m_isNot) (m_least0 := m_least0) (m_most0 := m_most0) (m_slot := m_slot) (m_work := m_work) (m_got := m_got) (m_rowMany := m_rowMany) (m_charAt := m_charAt) (m_charWide := m_charWide) (m_trail := m_trail) (m_isMatch := m_isMatch) (m_matchGroups := m_matchGroups) (m_allFrom := m_allFrom) (m_allBefore := m_allBefore) (m_founds := m_founds) (m_pieces := m_pieces) (m_writtenMany := m_writtenMany) (m_templateWide := m_templateWide) (m_tooMuch := m_tooMuch) (A_tape := A_tape) (A_nameSize := A_nameSize) (A_nameOf := A_nameOf) (A_groupsOf := A_groupsOf) (s := s) (n := m_taped) h80 h84 h126 h127 h114 (by omega) (by omega) jtp jns jnm (by omega)) (fun oc G2 h => by rcases h with ⟨_, _, h, _⟩ <;> exact ⟨_, h⟩) (by omega) m_MO_isTemplate ml_MO_612 im_MO_isTemplate se_MO_isTemplate c_MO h80.2.2 (Nat.le_of_ble_eq_true rfl) d_MO_replace_39 rfl ?_
    intro v G12 hq
    rcases hq with ⟨g213, w214, hv, hfk, hlk, hsk, hN80, hq15, hq16, hq17⟩
    cases hv
    have h147 := hfk.get h147 (by decide)
    have h86 := hfk.get h86 (by decide)
    have h134 := hfk.get h134 (by decide)
    have h135 := hfk.get h135 (by decide)
    have h136 := hfk.get h136 (by decide)
    have h137 := hfk.get h137 (by decide)
    have h144 := hfk.get h144 (by decide)
    have h138 := hfk.get h138 (by decide)
    have h142 := hfk.get h142 (by decide)
    have h143 := hfk.get h143 (by decide)
    have h140 := hfk.get h140 (by decide)
    have h141 := hfk.get h141 (by decide)
    have h84 := hfk.get h84 (by decide)
    have h127 := hfk.get h127 (by decide)
    have h126 := hfk.get h126 (by decide)
    have h112 := hfk.get h112 (by decide)
    have h114 := hfk.get h114 (by decide)
    have h116 := hfk.get h116 (by decide)
    have h118 := hfk.get h118 (by decide)
    have h119 := hfk.get h119 (by decide)
    have h120 := hfk.get h120 (by decide)
    have h121 := hfk.get h121 (by decide)
    have h122 := hfk.get h122 (by decide)
    have h123 := hfk.get h123 (by decide)
    have h124 := hfk.get h124 (by decide)
    have h85 := hfk.get h85 (by decide)
    have h117 := hfk.get h117 (by decide)
    have h113 := hfk.get h113 (by decide)
    have hfr := hfr.tr hfk (by decide)
    have hlen := hlk.trans hlen
    have hsl := hsk.trans hsl
    have h80 := hN80
    change ab_W _ _ _ G12 42 [some (vR 80), some (vz s), some (vz m_taped), none, none] [vz g213] _
    refine zz_if_ne (tgt := 52) d_MO_replace_42 (by decide) (by omega) (fun c18 => ?_) (fun c18 => ?_)
    · obtain ⟨V_, jtg⟩ := hq16 (by omega)
      have jnd := jdn s (by omega) (by omega) (hq4 (by omega)).2.2
      obtain ⟨L9, jtl⟩ := hq17.1 (by omega)
      refine ab_aload_n d_MO_replace_52 rfl ?_
      refine zz_iconst d_MO_replace_53 ?_
      refine ab_putf (fs := mof 0 0 m_length m_out m_wide m_gathered m_sets m_ranges m_nodes m_at m_flags m_fault m_place m_numbered m_depth m_value m_isNot m_least0 m_most0 m_slot m_work m_got m_rowMany m_charAt m_charWide m_trail m_isMatch m_matchGroups m_allFrom m_allBefore m_founds m_pieces m_writtenMany w214 m_tooMuch) f_MO_594 (Or.inl rfl) d_MO_replace_54 h80.2.2 (Nat.le_of_ble_eq_true rfl) (fun _ => ⟨rfl, rfl⟩) (h80.2.1 (by decide)) ?_
      obtain ⟨G19, eG19⟩ : ∃ z : ab_G, z = List.set G12 80 (ab_ob 12 (mof 0 0 m_length m_out m_wide m_gathered m_sets m_ranges m_nodes m_at m_flags m_fault m_place m_numbered m_depth m_value m_isNot m_least0 m_most0 m_slot m_work m_got m_rowMany m_charAt m_charWide m_trail m_isMatch m_matchGroups m_allFrom m_allBefore m_founds m_pieces 0 w214 m_tooMuch)) := ⟨_, rfl⟩
      have h147 := h147.keep h80 eG19 (by decide)
      have h86 := h86.keep h80 eG19 (by decide)
      have h134 := h134.keep h80 eG19 (by decide)
      have h135 := h135.keep h80 eG19 (by decide)
      have h136 := h136.keep h80 eG19 (by decide)
      have h137 := h137.keep h80 eG19 (by decide)
      have h144 := h144.keep h80 eG19 (by decide)
      have h138 := h138.keep h80 eG19 (by decide)
      have h142 := h142.keep h80 eG19 (by decide)
      have h143 := h143.keep h80 eG19 (by decide)
      have h140 := h140.keep h80 eG19 (by decide)
      have h141 := h141.keep h80 eG19 (by decide)
      have h84 := h84.keep h80 eG19 (by decide)
      have h127 := h127.keep h80 eG19 (by decide)
      have h126 := h126.keep h80 eG19 (by decide)
      have h112 := h112.keep h80 eG19 (by decide)
      have h114 := h114.keep h80 eG19 (by decide)
      have h116 := h116.keep h80 eG19 (by decide)
      have h118 := h118.keep h80 eG19 (by decide)
      have h119 := h119.keep h80 eG19 (by decide)
      have h120 := h120.keep h80 eG19 (by decide)
      have h121 := h121.keep h80 eG19 (by decide)
      have h122 := h122.keep h80 eG19 (by decide)
      have h123 := h123.keep h80 eG19 (by decide)
      have h124 := h124.keep h80 eG19 (by decide)
      have h85 := h85.keep h80 eG19 (by decide)
      have h117 := h117.keep h80 eG19 (by decide)
      have h113 := h113.keep h80 eG19 (by decide)
      have hlen := (z_len eG19).trans hlen
      have hsl := (z_sl h80 eG19 rfl).trans hsl
      have hfr := hfr.wr h80 eG19 (by decide)
      have h80 := h80.kept eG19
      change ab_W _ _ _ (List.set G12 80 (ab_ob 12 (mof 0 0 m_length m_out m_wide m_gathered m_sets m_ranges m_nodes m_at m_flags m_fault m_place m_numbered m_depth m_value m_isNot m_least0 m_most0 m_slot m_work m_got m_rowMany m_charAt m_charWide m_trail m_isMatch m_matchGroups m_allFrom m_allBefore m_founds m_pieces 0 w214 m_tooMuch))) 57 [some (vR 80), some (vz s), some (vz m_taped), none, none] [] _
      rw [← eG19]
      refine ab_aload_n d_MO_replace_57 rfl ?_
      refine zz_iconst d_MO_replace_58 ?_
      refine ab_putf (fs := mof 0 0 m_length m_out m_wide m_gathered m_sets m_ranges m_nodes m_at m_flags m_fault m_place m_numbered m_depth m_value m_isNot m_least0 m_most0 m_slot m_work m_got m_rowMany m_charAt m_charWide m_trail m_isMatch m_matchGroups m_allFrom m_allBefore m_founds m_pieces 0 w214 m_tooMuch) f_MO_597 (Or.inl rfl) d_MO_replace_59 h80.2.2 (Nat.le_of_ble_eq_true rfl) (ab_fbz (by decide)) (h80.2.1 (by decide)) ?_
      obtain ⟨G20, eG20⟩ : ∃ z : ab_G, z = List.set G19 80 (ab_ob 12 (mof 0 0 m_length m_out m_wide m_gathered m_sets m_ranges m_nodes m_at m_flags m_fault m_place m_numbered m_depth m_value m_isNot m_least0 m_most0 m_slot m_work m_got m_rowMany m_charAt m_charWide m_trail m_isMatch m_matchGroups m_allFrom m_allBefore m_founds m_pieces 0 w214 0)) := ⟨_, rfl⟩
      have h147 := h147.keep h80 eG20 (by decide)
      have h86 := h86.keep h80 eG20 (by decide)
      have h134 := h134.keep h80 eG20 (by decide)
      have h135 := h135.keep h80 eG20 (by decide)
      have h136 := h136.keep h80 eG20 (by decide)
      have h137 := h137.keep h80 eG20 (by decide)
      have h144 := h144.keep h80 eG20 (by decide)
      have h138 := h138.keep h80 eG20 (by decide)
      have h142 := h142.keep h80 eG20 (by decide)
      have h143 := h143.keep h80 eG20 (by decide)
      have h140 := h140.keep h80 eG20 (by decide)
      have h141 := h141.keep h80 eG20 (by decide)
      have h84 := h84.keep h80 eG20 (by decide)
      have h127 := h127.keep h80 eG20 (by decide)
      have h126 := h126.keep h80 eG20 (by decide)
      have h112 := h112.keep h80 eG20 (by decide)
      have h114 := h114.keep h80 eG20 (by decide)
      have h116 := h116.keep h80 eG20 (by decide)
      have h118 := h118.keep h80 eG20 (by decide)
      have h119 := h119.keep h80 eG20 (by decide)
      have h120 := h120.keep h80 eG20 (by decide)
      have h121 := h121.keep h80 eG20 (by decide)
      have h122 := h122.keep h80 eG20 (by decide)
      have h123 := h123.keep h80 eG20 (by decide)
      have h124 := h124.keep h80 eG20 (by decide)
      have h85 := h85.keep h80 eG20 (by decide)
      have h117 := h117.keep h80 eG20 (by decide)
      have h113 := h113.keep h80 eG20 (by decide)
      have hlen := (z_len eG20).trans hlen
      have hsl := (z_sl h80 eG20 rfl).trans hsl
      have hfr := hfr.wr h80 eG20 (by decide)
      have h80 := h80.kept eG20
      change ab_W _ _ _ (List.set G19 80 (ab_ob 12 (mof 0 0 m_length m_out m_wide m_gathered m_sets m_ranges m_nodes m_at m_flags m_fault m_place m_numbered m_depth m_value m_isNot m_least0 m_most0 m_slot m_work m_got m_rowMany m_charAt m_charWide m_trail m_isMatch m_matchGroups m_allFrom m_allBefore m_founds m_pieces 0 w214 0))) 62 [some (vR 80), some (vz s), some (vz m_taped), none, none] [] _
      rw [← eG20]
      refine zz_iconst d_MO_replace_62 ?_
      refine ab_istore_n d_MO_replace_63 (Nat.le_of_ble_eq_true rfl) (Nat.le_of_ble_eq_true rfl) rfl ?_
      change ab_W _ _ _ G20 64 [some (vR 80), some (vz s), some (vz m_taped), some (vz 0), none] [] _
      refine ab_aload_n d_MO_replace_64 rfl ?_
      refine ab_iload_n d_MO_replace_65 rfl ?_
      refine ab_callV (d' := d - 1) (as := [vz s]) (st := []) (r := _) (z_MO_beginAll (o := o) (m_thrown := 0) (m_taped := 0) (m_length := m_length) (m_out := m_out) (m_wide := m_wide) (m_gathered := m_gathered) (m_sets := m_sets) (m_ranges := m_ranges) (m_nodes := m_nodes) (m_at := m_at) (m_flags := m_flags) (m_fault := m_fault) (m_place := m_place) (m_numbered := m_numbered) (m_depth := m_depth) (m_value := m_value) (m_isNot := m_isNot) (m_least0 := m_least0) (m_most0 := m_most0) (m_slot := m_slot) (m_work := m_work) (m_got := m_got) (m_rowMany := m_rowMany) (m_charAt := m_charAt) (m_charWide := m_charWide) (m_trail := m_trail) (m_isMatch := m_isMatch) (m_matchGroups := m_matchGroups) (m_allFrom := m_allFrom) (m_allBefore := m_allBefore) (m_founds := m_founds) (m_pieces := m_pieces) (m_writtenMany := 0) (m_templateWide := w214) (m_tooMuch := 0) (A_step := A_step) (A_next := A_next) (A_more := A_more) (A_classAt := A_classAt) (A_classMany := A_classMany) (A_classLow := A_classLow) (A_classHigh := A_classHigh) (A_subject := A_subject) (A_stepMany := A_stepMany) (A_entry := A_entry) (CN := CN) (ZN := ZN) (s := s) h80 h134 h137 h118 h119 h120 h121 h122 h123 h124 h85 h117 h113 (by omega) (by omega) (by omega) hp5_ jst jcl jch jsb jn (by omega)) (fun oc G2 h => by rcases h with ⟨_, _, _, _, _, h, _⟩ <;> exact ⟨_, h⟩) (by omega) m_MO_beginAll ml_MO_582 im_MO_beginAll se_MO_beginAll c_MO h80.2.2 (Nat.le_of_ble_eq_true rfl) d_MO_replace_66 rfl ?_
      intro v G21 hq
      rcases hq with ⟨w222, c223, cw224, CN225, ZN226, hv, hfk, hlk, hsk, hN80, hN134, hN137, hq27, hq28, hq29⟩
      cases hv
      have h147 := hfk.get h147 (by decide)
      have h86 := hfk.get h86 (by decide)
      have h135 := hfk.get h135 (by decide)
      have h136 := hfk.get h136 (by decide)
      have h144 := hfk.get h144 (by decide)
      have h138 := hfk.get h138 (by decide)
      have h142 := hfk.get h142 (by decide)
      have h143 := hfk.get h143 (by decide)
      have h140 := hfk.get h140 (by decide)
      have h141 := hfk.get h141 (by decide)
      have h84 := hfk.get h84 (by decide)
      have h127 := hfk.get h127 (by decide)
      have h126 := hfk.get h126 (by decide)
      have h112 := hfk.get h112 (by decide)
      have h114 := hfk.get h114 (by decide)
      have h116 := hfk.get h116 (by decide)
      have h118 := hfk.get h118 (by decide)
      have h119 := hfk.get h119 (by decide)
      have h120 := hfk.get h120 (by decide)
      have h121 := hfk.get h121 (by decide)
      have h122 := hfk.get h122 (by decide)
      have h123 := hfk.get h123 (by decide)
      have h124 := hfk.get h124 (by decide)
      have h85 := hfk.get h85 (by decide)
      have h117 := hfk.get h117 (by decide)
      have h113 := hfk.get h113 (by decide)
      have hfr := hfr.tr hfk (by decide)
      have hlen := hlk.trans hlen
      have hsl := hsk.trans hsl
      have h80 := hN80
      have h134 := hN134
      have h137 := hN137
      change ab_W _ _ _ G21 69 [some (vR 80), some (vz s), some (vz m_taped), some (vz 0), none] [] _
      refine y_MO_replace_69 (m_thrown := 0) (m_taped := 0) (m_length := m_length) (m_out := m_out) (m_gathered := m_gathered) (m_sets := m_sets) (m_ranges := m_ranges) (m_nodes := m_nodes) (m_at := m_at) (m_flags := m_flags) (m_fault := m_fault) (m_place := m_place) (m_numbered := m_numbered) (m_depth := m_depth) (m_value := m_value) (m_isNot := m_isNot) (m_least0 := m_least0) (m_most0 := m_most0) (m_slot := m_slot) (m_work := m_work) (m_got := m_got) (m_rowMany := m_rowMany) (m_isMatch := m_isMatch) (m_matchGroups := m_matchGroups) (m_founds := m_founds) (m_pieces := m_pieces) (A_tape := A_tape) (A_nameSize := A_nameSize) (A_nameOf := A_nameOf) (A_groupsOf := A_groupsOf) (A_flagsOf := A_flagsOf) (A_step := A_step) (A_next := A_next) (A_more := A_more) (A_classAt := A_classAt) (A_classMany := A_classMany) (A_classLow := A_classLow) (A_classHigh := A_classHigh) (A_subject := A_subject) (A_stepMany := A_stepMany) (A_entry := A_entry) (CN := CN225) (v9 := (V6 s)) (s := s) (n := m_taped) (V_ := V_) (L9 := L9) (G0 := G21) (m_wide := w222) (m_charAt := c223) (m_charWide := cw224) (m_trail := m_trail) (m_allFrom := 0) (m_allBefore := (-1)) (m_writtenMany := 0) (m_tooMuch := 0) (m_templateWide := w214) (la := 0) (JU := JU) (CO := CO) (ZN := ZN226) (ZS := ZS) (SP := SP) (PL := PL) (PT := PT) (TS := TS) (TO := TO) (WR := WR) (by omega) (by omega) (by omega) hp5_ jst jcl jch jsb (by omega) (by omega) hq28 hq29 hp6_ jtp jns jnm jtg jnd jtl (by omega) (by omega) (Int.toNat (m_length + 1 - (-1)) + 1) h80 h147 h134 h135 h136 h137 h144 h138 h142 h143 h140 h141 h116 h114 h84 h127 h126 h118 h119 h120 h121 h122 h123 h124 h85 h117 h113 (by omega) (by omega) (by omega) mxA_0 (rrI_0 rfl) mxA_0 hq27 jse jsp jpt jts jto fx.rf rfl rfl (by omega) (fun G30 w231 c232 cw233 t234 JU235 CO236 ZN237 ZS238 SP239 PL240 PT241 TS242 TO243 af244 ab245 k246 tm247 tw248 la249 WR250 hN80 hN135 hN136 hN137 hN144 hN138 hN142 hN143 hN140 hN141 hN147 hq51 hq52 hq53 hq54 hq55 hq56 hq57 hq58 hq59 hq60 hfk hlk hsk => ?_)
      · have h86 := hfk.get h86 (by decide)
        have h134 := hfk.get h134 (by decide)
        have h84 := hfk.get h84 (by decide)
        have h127 := hfk.get h127 (by decide)
        have h126 := hfk.get h126 (by decide)
        have h112 := hfk.get h112 (by decide)
        have h114 := hfk.get h114 (by decide)
        have h116 := hfk.get h116 (by decide)
        have h118 := hfk.get h118 (by decide)
        have h119 := hfk.get h119 (by decide)
        have h120 := hfk.get h120 (by decide)
        have h121 := hfk.get h121 (by decide)
        have h122 := hfk.get h122 (by decide)
        have h123 := hfk.get h123 (by decide)
        have h124 := hfk.get h124 (by decide)
        have h85 := hfk.get h85 (by decide)
        have h117 := hfk.get h117 (by decide)
        have h113 := hfk.get h113 (by decide)
        have hfr := hfr.tr hfk (by decide)
        have hlen := hlk.trans hlen
        have hsl := hsk.trans hsl
        have h80 := hN80
        have h135 := hN135
        have h136 := hN136
        have h137 := hN137
        have h144 := hN144
        have h138 := hN138
        have h142 := hN142
        have h143 := hN143
        have h140 := hN140
        have h141 := hN141
        have h147 := hN147
        change ab_W _ _ _ G30 111 [some (vR 80), none, none, some (vz la249), none] [] _
        obtain ⟨⟨k_, O_, hr_, hw_⟩, hE_⟩ := hq59
        refine ab_aload_n d_MO_replace_111 rfl ?_
        refine ab_iload_n d_MO_replace_112 rfl ?_
        refine ab_aload_n d_MO_replace_113 rfl ?_
        refine ab_getf (fs := mof 0 0 m_length m_out w231 m_gathered m_sets m_ranges m_nodes m_at m_flags m_fault m_place m_numbered m_depth m_value m_isNot m_least0 m_most0 m_slot m_work m_got m_rowMany c232 cw233 t234 m_isMatch m_matchGroups af244 ab245 m_founds m_pieces k246 tw248 tm247) f_MO_510 d_MO_replace_114 h80.2.2 rfl ?_
        refine ab_callV (d' := d - 1) (as := [vz la249, vz m_length]) (st := []) (r := _) (z_MO_writeSubject (o := o) (m_thrown := 0) (m_taped := 0) (m_length := m_length) (m_out := m_out) (m_wide := w231) (m_gathered := m_gathered) (m_sets := m_sets) (m_ranges := m_ranges) (m_nodes := m_nodes) (m_at := m_at) (m_flags := m_flags) (m_fault := m_fault) (m_place := m_place) (m_numbered := m_numbered) (m_depth := m_depth) (m_value := m_value) (m_isNot := m_isNot) (m_least0 := m_least0) (m_most0 := m_most0) (m_slot := m_slot) (m_work := m_work) (m_got := m_got) (m_rowMany := m_rowMany) (m_charAt := c232) (m_charWide := cw233) (m_trail := t234) (m_isMatch := m_isMatch) (m_matchGroups := m_matchGroups) (m_allFrom := af244) (m_allBefore := ab245) (m_founds := m_founds) (m_pieces := m_pieces) (m_writtenMany := k246) (m_templateWide := tw248) (m_tooMuch := tm247) (A_subject := A_subject) (WR := WR250) (a := la249) (b := m_length) (O9 := O_) h80 h147 h85 (by omega) (by omega) (by omega) hw_ (by omega)) (fun oc G2 h => by rcases h with ⟨_, _, _, h, _⟩ <;> exact ⟨_, h⟩) (by omega) m_MO_writeSubject ml_MO_609 im_MO_writeSubject se_MO_writeSubject c_MO h80.2.2 (Nat.le_of_ble_eq_true rfl) d_MO_replace_117 rfl ?_
        intro v G61 hq
        rcases hq with ⟨k262, t263, WR264, hv, hfk, hlk, hsk, hN80, hN147, hq65, hq66⟩
        cases hv
        have h86 := hfk.get h86 (by decide)
        have h134 := hfk.get h134 (by decide)
        have h135 := hfk.get h135 (by decide)
        have h136 := hfk.get h136 (by decide)
        have h137 := hfk.get h137 (by decide)
        have h144 := hfk.get h144 (by decide)
        have h138 := hfk.get h138 (by decide)
        have h142 := hfk.get h142 (by decide)
        have h143 := hfk.get h143 (by decide)
        have h140 := hfk.get h140 (by decide)
        have h141 := hfk.get h141 (by decide)
        have h84 := hfk.get h84 (by decide)
        have h127 := hfk.get h127 (by decide)
        have h126 := hfk.get h126 (by decide)
        have h112 := hfk.get h112 (by decide)
        have h114 := hfk.get h114 (by decide)
        have h116 := hfk.get h116 (by decide)
        have h118 := hfk.get h118 (by decide)
        have h119 := hfk.get h119 (by decide)
        have h120 := hfk.get h120 (by decide)
        have h121 := hfk.get h121 (by decide)
        have h122 := hfk.get h122 (by decide)
        have h123 := hfk.get h123 (by decide)
        have h124 := hfk.get h124 (by decide)
        have h85 := hfk.get h85 (by decide)
        have h117 := hfk.get h117 (by decide)
        have h113 := hfk.get h113 (by decide)
        have hfr := hfr.tr hfk (by decide)
        have hlen := hlk.trans hlen
        have hsl := hsk.trans hsl
        have h80 := hN80
        have h147 := hN147
        change ab_W _ _ _ G61 120 [some (vR 80), none, none, some (vz la249), none] [] _
        refine ab_aload_n d_MO_replace_120 rfl ?_
        refine ab_aload_n d_MO_replace_121 rfl ?_
        refine ab_getf (fs := mof 0 0 m_length m_out w231 m_gathered m_sets m_ranges m_nodes m_at m_flags m_fault m_place m_numbered m_depth m_value m_isNot m_least0 m_most0 m_slot m_work m_got m_rowMany c232 cw233 t234 m_isMatch m_matchGroups af244 ab245 m_founds m_pieces k262 tw248 t263) f_MO_597 d_MO_replace_122 h80.2.2 rfl ?_
        refine zz_if_eq (tgt := 132) d_MO_replace_125 (by decide) (by omega) (fun c67 => ?_) (fun c67 => ?_)
        · refine zz_iconst d_MO_replace_132 ?_
          refine ab_putf (fs := mof 0 0 m_length m_out w231 m_gathered m_sets m_ranges m_nodes m_at m_flags m_fault m_place m_numbered m_depth m_value m_isNot m_least0 m_most0 m_slot m_work m_got m_rowMany c232 cw233 t234 m_isMatch m_matchGroups af244 ab245 m_founds m_pieces k262 tw248 t263) f_MO_220 (Or.inl rfl) d_MO_replace_133 h80.2.2 (Nat.le_of_ble_eq_true rfl) (fun _ => ⟨rfl, rfl⟩) (h80.2.1 (by decide)) ?_
          obtain ⟨G68, eG68⟩ : ∃ z : ab_G, z = List.set G61 80 (ab_ob 12 (mof 0 0 m_length m_out w231 m_gathered m_sets m_ranges m_nodes m_at m_flags m_fault m_place m_numbered m_depth m_value m_isNot m_least0 m_most0 m_slot m_work m_got m_rowMany c232 cw233 t234 m_isMatch m_matchGroups af244 ab245 m_founds m_pieces k262 tw248 t263)) := ⟨_, rfl⟩
          have h147 := h147.keep h80 eG68 (by decide)
          have h86 := h86.keep h80 eG68 (by decide)
          have h134 := h134.keep h80 eG68 (by decide)
          have h135 := h135.keep h80 eG68 (by decide)
          have h136 := h136.keep h80 eG68 (by decide)
          have h137 := h137.keep h80 eG68 (by decide)
          have h144 := h144.keep h80 eG68 (by decide)
          have h138 := h138.keep h80 eG68 (by decide)
          have h142 := h142.keep h80 eG68 (by decide)
          have h143 := h143.keep h80 eG68 (by decide)
          have h140 := h140.keep h80 eG68 (by decide)
          have h141 := h141.keep h80 eG68 (by decide)
          have h84 := h84.keep h80 eG68 (by decide)
          have h127 := h127.keep h80 eG68 (by decide)
          have h126 := h126.keep h80 eG68 (by decide)
          have h112 := h112.keep h80 eG68 (by decide)
          have h114 := h114.keep h80 eG68 (by decide)
          have h116 := h116.keep h80 eG68 (by decide)
          have h118 := h118.keep h80 eG68 (by decide)
          have h119 := h119.keep h80 eG68 (by decide)
          have h120 := h120.keep h80 eG68 (by decide)
          have h121 := h121.keep h80 eG68 (by decide)
          have h122 := h122.keep h80 eG68 (by decide)
          have h123 := h123.keep h80 eG68 (by decide)
          have h124 := h124.keep h80 eG68 (by decide)
          have h85 := h85.keep h80 eG68 (by decide)
          have h117 := h117.keep h80 eG68 (by decide)
          have h113 := h113.keep h80 eG68 (by decide)
          have hlen := (z_len eG68).trans hlen
          have hsl := (z_sl h80 eG68 rfl).trans hsl
          have hfr := hfr.wr h80 eG68 (by decide)
          have h80 := h80.kept eG68
          change ab_W _ _ _ (List.set G61 80 (ab_ob 12 (mof 0 0 m_length m_out w231 m_gathered m_sets m_ranges m_nodes m_at m_flags m_fault m_place m_numbered m_depth m_value m_isNot m_least0 m_most0 m_slot m_work m_got m_rowMany c232 cw233 t234 m_isMatch m_matchGroups af244 ab245 m_founds m_pieces k262 tw248 t263))) 136 [some (vR 80), none, none, some (vz la249), none] [] _
          rw [← eG68]
          refine ab_aload_n d_MO_replace_136 rfl ?_
          refine ab_getf (fs := mof 0 0 m_length m_out w231 m_gathered m_sets m_ranges m_nodes m_at m_flags m_fault m_place m_numbered m_depth m_value m_isNot m_least0 m_most0 m_slot m_work m_got m_rowMany c232 cw233 t234 m_isMatch m_matchGroups af244 ab245 m_founds m_pieces k262 tw248 t263) f_MO_597 d_MO_replace_137 h80.2.2 rfl ?_
          refine zz_if_eq (tgt := 145) d_MO_replace_140 (by decide) (by omega) (fun c69 => ?_) (fun c69 => absurd c69 (by omega))
          refine ab_aload_n d_MO_replace_145 rfl ?_
          refine ab_aload_n d_MO_replace_146 rfl ?_
          refine ab_getf (fs := mof 0 0 m_length m_out w231 m_gathered m_sets m_ranges m_nodes m_at m_flags m_fault m_place m_numbered m_depth m_value m_isNot m_least0 m_most0 m_slot m_work m_got m_rowMany c232 cw233 t234 m_isMatch m_matchGroups af244 ab245 m_founds m_pieces k262 tw248 t263) f_MO_594 d_MO_replace_147 h80.2.2 rfl ?_
          refine ab_putf (fs := mof 0 0 m_length m_out w231 m_gathered m_sets m_ranges m_nodes m_at m_flags m_fault m_place m_numbered m_depth m_value m_isNot m_least0 m_most0 m_slot m_work m_got m_rowMany c232 cw233 t234 m_isMatch m_matchGroups af244 ab245 m_founds m_pieces k262 tw248 t263) f_MO_618 (Or.inl rfl) d_MO_replace_150 h80.2.2 (Nat.le_of_ble_eq_true rfl) (fun _ => ⟨rfl, rfl⟩) (h80.2.1 (by decide)) ?_
          obtain ⟨G70, eG70⟩ : ∃ z : ab_G, z = List.set G68 80 (ab_ob 12 (mof 0 0 m_length k262 w231 m_gathered m_sets m_ranges m_nodes m_at m_flags m_fault m_place m_numbered m_depth m_value m_isNot m_least0 m_most0 m_slot m_work m_got m_rowMany c232 cw233 t234 m_isMatch m_matchGroups af244 ab245 m_founds m_pieces k262 tw248 t263)) := ⟨_, rfl⟩
          have h147 := h147.keep h80 eG70 (by decide)
          have h86 := h86.keep h80 eG70 (by decide)
          have h134 := h134.keep h80 eG70 (by decide)
          have h135 := h135.keep h80 eG70 (by decide)
          have h136 := h136.keep h80 eG70 (by decide)
          have h137 := h137.keep h80 eG70 (by decide)
          have h144 := h144.keep h80 eG70 (by decide)
          have h138 := h138.keep h80 eG70 (by decide)
          have h142 := h142.keep h80 eG70 (by decide)
          have h143 := h143.keep h80 eG70 (by decide)
          have h140 := h140.keep h80 eG70 (by decide)
          have h141 := h141.keep h80 eG70 (by decide)
          have h84 := h84.keep h80 eG70 (by decide)
          have h127 := h127.keep h80 eG70 (by decide)
          have h126 := h126.keep h80 eG70 (by decide)
          have h112 := h112.keep h80 eG70 (by decide)
          have h114 := h114.keep h80 eG70 (by decide)
          have h116 := h116.keep h80 eG70 (by decide)
          have h118 := h118.keep h80 eG70 (by decide)
          have h119 := h119.keep h80 eG70 (by decide)
          have h120 := h120.keep h80 eG70 (by decide)
          have h121 := h121.keep h80 eG70 (by decide)
          have h122 := h122.keep h80 eG70 (by decide)
          have h123 := h123.keep h80 eG70 (by decide)
          have h124 := h124.keep h80 eG70 (by decide)
          have h85 := h85.keep h80 eG70 (by decide)
          have h117 := h117.keep h80 eG70 (by decide)
          have h113 := h113.keep h80 eG70 (by decide)
          have hlen := (z_len eG70).trans hlen
          have hsl := (z_sl h80 eG70 rfl).trans hsl
          have hfr := hfr.wr h80 eG70 (by decide)
          have h80 := h80.kept eG70
          change ab_W _ _ _ (List.set G68 80 (ab_ob 12 (mof 0 0 m_length k262 w231 m_gathered m_sets m_ranges m_nodes m_at m_flags m_fault m_place m_numbered m_depth m_value m_isNot m_least0 m_most0 m_slot m_work m_got m_rowMany c232 cw233 t234 m_isMatch m_matchGroups af244 ab245 m_founds m_pieces k262 tw248 t263))) 153 [some (vR 80), none, none, some (vz la249), none] [] _
          rw [← eG70]
          refine zz_iconst d_MO_replace_153 ?_
          refine ab_istore d_MO_replace_154 (Nat.le_of_ble_eq_true rfl) (Nat.le_of_ble_eq_true rfl) rfl ?_
          change ab_W _ _ _ G70 156 [some (vR 80), none, none, some (vz la249), some (vz 0)] [] _
          refine ab_less (L' := [some (vR 80), none, none, none, some (vz 0)]) (fun i v h => by rcases i with _ | _ | _ | _ | _ | i <;> first | exact h | (simp at h)) ?_
          refine y_MO_replace_156 (m_thrown := 0) (m_taped := 0) (m_length := m_length) (m_out := k262) (m_wide := w231) (m_gathered := m_gathered) (m_sets := m_sets) (m_ranges := m_ranges) (m_nodes := m_nodes) (m_at := m_at) (m_flags := m_flags) (m_fault := m_fault) (m_place := m_place) (m_numbered := m_numbered) (m_depth := m_depth) (m_value := m_value) (m_isNot := m_isNot) (m_least0 := m_least0) (m_most0 := m_most0) (m_slot := m_slot) (m_work := m_work) (m_got := m_got) (m_rowMany := m_rowMany) (m_charAt := c232) (m_charWide := cw233) (m_trail := t234) (m_isMatch := m_isMatch) (m_matchGroups := m_matchGroups) (m_allFrom := af244) (m_allBefore := ab245) (m_founds := m_founds) (m_pieces := m_pieces) (m_writtenMany := k262) (m_templateWide := tw248) (m_tooMuch := t263) (WR := WR264) (G0 := G70) (i_ := 0) (A_output := A_output) (by omega) (by omega) (by omega) (Int.toNat (k262 - 0) + 1) h80 h147 h86 (by omega) cpE_0 fx.rf rfl rfl (by omega) (fun G71 OU272 hN86 hq73 hfk hlk hsk => ?_)
          · have h80 := hfk.get h80 (by decide)
            have h147 := hfk.get h147 (by decide)
            have h134 := hfk.get h134 (by decide)
            have h135 := hfk.get h135 (by decide)
            have h136 := hfk.get h136 (by decide)
            have h137 := hfk.get h137 (by decide)
            have h144 := hfk.get h144 (by decide)
            have h138 := hfk.get h138 (by decide)
            have h142 := hfk.get h142 (by decide)
            have h143 := hfk.get h143 (by decide)
            have h140 := hfk.get h140 (by decide)
            have h141 := hfk.get h141 (by decide)
            have h84 := hfk.get h84 (by decide)
            have h127 := hfk.get h127 (by decide)
            have h126 := hfk.get h126 (by decide)
            have h112 := hfk.get h112 (by decide)
            have h114 := hfk.get h114 (by decide)
            have h116 := hfk.get h116 (by decide)
            have h118 := hfk.get h118 (by decide)
            have h119 := hfk.get h119 (by decide)
            have h120 := hfk.get h120 (by decide)
            have h121 := hfk.get h121 (by decide)
            have h122 := hfk.get h122 (by decide)
            have h123 := hfk.get h123 (by decide)
            have h124 := hfk.get h124 (by decide)
            have h85 := hfk.get h85 (by decide)
            have h117 := hfk.get h117 (by decide)
            have h113 := hfk.get h113 (by decide)
            have hfr := hfr.tr hfk (by decide)
            have hlen := hlk.trans hlen
            have hsl := hsk.trans hsl
            have h86 := hN86
            change ab_W _ _ _ G71 185 [some (vR 80), none, none, none, none] [] _
            refine ab_aload_n d_MO_replace_185 rfl ?_
            refine ab_getf (fs := mof 0 0 m_length k262 w231 m_gathered m_sets m_ranges m_nodes m_at m_flags m_fault m_place m_numbered m_depth m_value m_isNot m_least0 m_most0 m_slot m_work m_got m_rowMany c232 cw233 t234 m_isMatch m_matchGroups af244 ab245 m_founds m_pieces k262 tw248 t263) f_MO_618 d_MO_replace_186 h80.2.2 rfl ?_
            refine zz_iret rfl d_MO_replace_189 ?_
            rw [hQ]; exact ⟨_, _, _, _, _, _, _, _, _, _, _, _, _, _, _, _, _, _, _, _, _, _, _, _, _, rfl, hfr, hlen, hsl, h80, h135, h136, h137, h144, h138, h142, h143, h140, h141, h134, h147, h86, (by first | exact hq51 | exact rgs_w hq51 (by omega)), (by first | exact hq52 | exact rgs_w hq52 (by omega)), (by first | exact hq53 | exact rgs_w hq53 (by omega)), (by first | exact hq54 | exact rgs_w hq54 (by omega)), (by first | exact hq55 | exact rgs_w hq55 (by omega)), (by first | exact hq56 | exact rgs_w hq56 (by omega)), (by omega), (by omega), (by exact Or.inl ⟨by omega, by omega, (hq4 (by omega)).2.2, rfl⟩), (by have t_ := rrE_z hr_ hw_ hE_ hq60 hq66; rw [show t263 = 0 by omega] at t_; exact Or.inl ⟨rfl, (hq4 (by omega)), rfl, L9, jtl, t_.cg hq73⟩)⟩
        · refine zz_iconst d_MO_replace_128 ?_
          refine ab_goto (tgt := 133) d_MO_replace_129 (by decide) ?_
          refine ab_putf (fs := mof 0 0 m_length m_out w231 m_gathered m_sets m_ranges m_nodes m_at m_flags m_fault m_place m_numbered m_depth m_value m_isNot m_least0 m_most0 m_slot m_work m_got m_rowMany c232 cw233 t234 m_isMatch m_matchGroups af244 ab245 m_founds m_pieces k262 tw248 t263) f_MO_220 (Or.inl rfl) d_MO_replace_133 h80.2.2 (Nat.le_of_ble_eq_true rfl) (fun _ => ⟨rfl, rfl⟩) (h80.2.1 (by decide)) ?_
          obtain ⟨G74, eG74⟩ : ∃ z : ab_G, z = List.set G61 80 (ab_ob 12 (mof 1 0 m_length m_out w231 m_gathered m_sets m_ranges m_nodes m_at m_flags m_fault m_place m_numbered m_depth m_value m_isNot m_least0 m_most0 m_slot m_work m_got m_rowMany c232 cw233 t234 m_isMatch m_matchGroups af244 ab245 m_founds m_pieces k262 tw248 t263)) := ⟨_, rfl⟩
          have h147 := h147.keep h80 eG74 (by decide)
          have h86 := h86.keep h80 eG74 (by decide)
          have h134 := h134.keep h80 eG74 (by decide)
          have h135 := h135.keep h80 eG74 (by decide)
          have h136 := h136.keep h80 eG74 (by decide)
          have h137 := h137.keep h80 eG74 (by decide)
          have h144 := h144.keep h80 eG74 (by decide)
          have h138 := h138.keep h80 eG74 (by decide)
          have h142 := h142.keep h80 eG74 (by decide)
          have h143 := h143.keep h80 eG74 (by decide)
          have h140 := h140.keep h80 eG74 (by decide)
          have h141 := h141.keep h80 eG74 (by decide)
          have h84 := h84.keep h80 eG74 (by decide)
          have h127 := h127.keep h80 eG74 (by decide)
          have h126 := h126.keep h80 eG74 (by decide)
          have h112 := h112.keep h80 eG74 (by decide)
          have h114 := h114.keep h80 eG74 (by decide)
          have h116 := h116.keep h80 eG74 (by decide)
          have h118 := h118.keep h80 eG74 (by decide)
          have h119 := h119.keep h80 eG74 (by decide)
          have h120 := h120.keep h80 eG74 (by decide)
          have h121 := h121.keep h80 eG74 (by decide)
          have h122 := h122.keep h80 eG74 (by decide)
          have h123 := h123.keep h80 eG74 (by decide)
          have h124 := h124.keep h80 eG74 (by decide)
          have h85 := h85.keep h80 eG74 (by decide)
          have h117 := h117.keep h80 eG74 (by decide)
          have h113 := h113.keep h80 eG74 (by decide)
          have hlen := (z_len eG74).trans hlen
          have hsl := (z_sl h80 eG74 rfl).trans hsl
          have hfr := hfr.wr h80 eG74 (by decide)
          have h80 := h80.kept eG74
          change ab_W _ _ _ (List.set G61 80 (ab_ob 12 (mof 1 0 m_length m_out w231 m_gathered m_sets m_ranges m_nodes m_at m_flags m_fault m_place m_numbered m_depth m_value m_isNot m_least0 m_most0 m_slot m_work m_got m_rowMany c232 cw233 t234 m_isMatch m_matchGroups af244 ab245 m_founds m_pieces k262 tw248 t263))) 136 [some (vR 80), none, none, some (vz la249), none] [] _
          rw [← eG74]
          refine ab_aload_n d_MO_replace_136 rfl ?_
          refine ab_getf (fs := mof 1 0 m_length m_out w231 m_gathered m_sets m_ranges m_nodes m_at m_flags m_fault m_place m_numbered m_depth m_value m_isNot m_least0 m_most0 m_slot m_work m_got m_rowMany c232 cw233 t234 m_isMatch m_matchGroups af244 ab245 m_founds m_pieces k262 tw248 t263) f_MO_597 d_MO_replace_137 h80.2.2 rfl ?_
          refine zz_if_eq (tgt := 145) d_MO_replace_140 (by decide) (by omega) (fun c75 => absurd c75 (by omega)) (fun c75 => ?_)
          refine zz_iconst d_MO_replace_143 ?_
          refine zz_iret rfl d_MO_replace_144 ?_
          rw [hQ]; exact ⟨_, _, _, _, _, _, _, _, _, _, _, _, _, _, _, _, _, _, _, _, _, _, _, _, _, rfl, hfr, hlen, hsl, h80, h135, h136, h137, h144, h138, h142, h143, h140, h141, h134, h147, h86, (by first | exact hq51 | exact rgs_w hq51 (by omega)), (by first | exact hq52 | exact rgs_w hq52 (by omega)), (by first | exact hq53 | exact rgs_w hq53 (by omega)), (by first | exact hq54 | exact rgs_w hq54 (by omega)), (by first | exact hq55 | exact rgs_w hq55 (by omega)), (by first | exact hq56 | exact rgs_w hq56 (by omega)), (by omega), (by omega), (by exact Or.inl ⟨by omega, by omega, (hq4 (by omega)).2.2, rfl⟩), (by have t_ := rrE_z hr_ hw_ hE_ hq60 hq66; rw [show t263 = 1 by omega] at t_; exact Or.inr ⟨rfl, Or.inr ⟨(hq4 (by omega)), Or.inr ⟨L9, _, _, jtl, t_⟩⟩, rfl, rfl, rfl⟩)⟩
    · refine ab_aload_n d_MO_replace_45 rfl ?_
      refine zz_iconst d_MO_replace_46 ?_
      refine ab_putf (fs := mof 0 0 m_length m_out m_wide m_gathered m_sets m_ranges m_nodes m_at m_flags m_fault m_place m_numbered m_depth m_value m_isNot m_least0 m_most0 m_slot m_work m_got m_rowMany m_charAt m_charWide m_trail m_isMatch m_matchGroups m_allFrom m_allBefore m_founds m_pieces m_writtenMany w214 m_tooMuch) f_MO_220 (Or.inl rfl) d_MO_replace_47 h80.2.2 (Nat.le_of_ble_eq_true rfl) (fun _ => ⟨rfl, rfl⟩) (h80.2.1 (by decide)) ?_
      obtain ⟨G76, eG76⟩ : ∃ z : ab_G, z = List.set G12 80 (ab_ob 12 (mof 1 0 m_length m_out m_wide m_gathered m_sets m_ranges m_nodes m_at m_flags m_fault m_place m_numbered m_depth m_value m_isNot m_least0 m_most0 m_slot m_work m_got m_rowMany m_charAt m_charWide m_trail m_isMatch m_matchGroups m_allFrom m_allBefore m_founds m_pieces m_writtenMany w214 m_tooMuch)) := ⟨_, rfl⟩
      have h147 := h147.keep h80 eG76 (by decide)
      have h86 := h86.keep h80 eG76 (by decide)
      have h134 := h134.keep h80 eG76 (by decide)
      have h135 := h135.keep h80 eG76 (by decide)
      have h136 := h136.keep h80 eG76 (by decide)
      have h137 := h137.keep h80 eG76 (by decide)
      have h144 := h144.keep h80 eG76 (by decide)
      have h138 := h138.keep h80 eG76 (by decide)
      have h142 := h142.keep h80 eG76 (by decide)
      have h143 := h143.keep h80 eG76 (by decide)
      have h140 := h140.keep h80 eG76 (by decide)
      have h141 := h141.keep h80 eG76 (by decide)
      have h84 := h84.keep h80 eG76 (by decide)
      have h127 := h127.keep h80 eG76 (by decide)
      have h126 := h126.keep h80 eG76 (by decide)
      have h112 := h112.keep h80 eG76 (by decide)
      have h114 := h114.keep h80 eG76 (by decide)
      have h116 := h116.keep h80 eG76 (by decide)
      have h118 := h118.keep h80 eG76 (by decide)
      have h119 := h119.keep h80 eG76 (by decide)
      have h120 := h120.keep h80 eG76 (by decide)
      have h121 := h121.keep h80 eG76 (by decide)
      have h122 := h122.keep h80 eG76 (by decide)
      have h123 := h123.keep h80 eG76 (by decide)
      have h124 := h124.keep h80 eG76 (by decide)
      have h85 := h85.keep h80 eG76 (by decide)
      have h117 := h117.keep h80 eG76 (by decide)
      have h113 := h113.keep h80 eG76 (by decide)
      have hlen := (z_len eG76).trans hlen
      have hsl := (z_sl h80 eG76 rfl).trans hsl
      have hfr := hfr.wr h80 eG76 (by decide)
      have h80 := h80.kept eG76
      change ab_W _ _ _ (List.set G12 80 (ab_ob 12 (mof 1 0 m_length m_out m_wide m_gathered m_sets m_ranges m_nodes m_at m_flags m_fault m_place m_numbered m_depth m_value m_isNot m_least0 m_most0 m_slot m_work m_got m_rowMany m_charAt m_charWide m_trail m_isMatch m_matchGroups m_allFrom m_allBefore m_founds m_pieces m_writtenMany w214 m_tooMuch))) 50 [some (vR 80), some (vz s), some (vz m_taped), none, none] [] _
      rw [← eG76]
      refine zz_iconst d_MO_replace_50 ?_
      refine zz_iret rfl d_MO_replace_51 ?_
      rw [hQ]; exact ⟨_, _, _, _, _, _, _, _, _, _, _, _, _, _, _, _, _, _, _, _, _, _, _, _, _, rfl, hfr, hlen, hsl, h80, h135, h136, h137, h144, h138, h142, h143, h140, h141, h134, h147, h86, (by first | exact jn | exact rgs_w jn (by omega)), (by first | exact jse | exact rgs_w jse (by omega)), (by first | exact jsp | exact rgs_w jsp (by omega)), (by first | exact jpt | exact rgs_w jpt (by omega)), (by first | exact jts | exact rgs_w jts (by omega)), (by first | exact jto | exact rgs_w jto (by omega)), (by omega), (by omega), (by exact Or.inl ⟨by omega, by omega, (hq4 (by omega)).2.2, rfl⟩), (by exact Or.inr ⟨rfl, Or.inr ⟨(hq4 (by omega)), Or.inl (hq17.2 (by omega))⟩, rfl, rfl, rfl⟩)⟩
