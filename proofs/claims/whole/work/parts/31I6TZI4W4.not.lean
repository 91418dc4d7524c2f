set_option maxRecDepth 100000 in
set_option maxHeartbeats 4000000 in
theorem y_MO_note_11 {X : ab_X} {d : Nat} {Q : Outcome → ab_G → Prop} {o : Nat → Nat} {G0 : ab_G} {m_thrown : Int} {m_taped : Int} {m_length : Int} {m_out : Int} {m_gathered : Int} {m_sets : Int} {m_ranges : Int} {m_nodes : Int} {m_at : Int} {m_flags : Int} {m_fault : Int} {m_place : Int} {m_numbered : Int} {m_depth : Int} {m_value : Int} {m_isNot : Int} {m_least0 : Int} {m_most0 : Int} {m_slot : Int} {m_work : Int} {m_got : Int} {m_rowMany : Int} {m_trail : Int} {m_isMatch : Int} {m_matchGroups : Int} {m_allFrom : Int} {m_allBefore : Int} {m_founds : Int} {m_pieces : Int} {m_writtenMany : Int} {m_templateWide : Int} {m_tooMuch : Int} {A_subject : Int → Int} {A_step : Int → Int} {A_next : Int → Int} {A_more : Int → Int} {A_classAt : Int → Int} {A_classMany : Int → Int} {A_classLow : Int → Int} {A_classHigh : Int → Int} {no : Nat} {lno : Nat} {s : Int} {fr : Int} {to : Int} {al : Int} {n : Int} (n18 : ab_n0 = 18) (cno : 334 ≤ lno ∧ lno ≤ 336) (cle : 0 ≤ m_length ∧ m_length ≤ 2000) (cs : 0 ≤ s ∧ s ≤ 5 ∧ 0 ≤ n ∧ n ≤ 12500 ∧ 0 ≤ al ∧ al ≤ 1) (jsg : sgood A_step A_next A_more A_classAt A_classMany (12500 * s) n) (jst : rgs A_step 75000 0 6) (jcl : rgs A_classLow 3600 0 1114111) (jch : rgs A_classHigh 3600 0 1114111) (jsb : rgs A_subject 2000 0 255) (cfr : 0 ≤ to ∧ -1 ≤ fr ∧ fr ≤ m_length ∧ to ≤ fr + 1) (hd : 5 ≤ d) : ∀ (mz : Nat) {G : ab_G} {p : Int} {NO : Int → Int} {Z : Int → Int} {m_wide : Int} {m_charAt : Int} {m_charWide : Int}, (cc o G 80 280 (ab_ob 12 (mof m_thrown m_taped m_length m_out m_wide m_gathered m_sets m_ranges m_nodes m_at m_flags m_fault m_place m_numbered m_depth m_value m_isNot m_least0 m_most0 m_slot m_work m_got m_rowMany m_charAt m_charWide m_trail m_isMatch m_matchGroups m_allFrom m_allBefore m_founds m_pieces m_writtenMany m_templateWide m_tooMuch))) → (cc o G no lno (zl 392196 NO)) → (cc o G 137 337 (zb 12500 Z)) → (cc o G 118 318 (za 75000 A_step)) → (cc o G 119 319 (za 75000 A_next)) → (cc o G 120 320 (za 75000 A_more)) → (cc o G 121 321 (za 75000 A_classAt)) → (cc o G 122 322 (za 75000 A_classMany)) → (cc o G 123 323 (za 3600 A_classLow)) → (cc o G 124 324 (za 3600 A_classHigh)) → (cc o G 85 285 (za 2000 A_subject)) → (to - 1 ≤ p ∧ p ≤ fr) → (rgs Z 12500 0 1) → (nrows A_step A_next A_more A_classAt A_classMany A_classLow A_classHigh A_subject NO m_length (12500 * s) n fr al p) → (ncrows A_step A_next A_more A_classAt A_classMany A_classLow A_classHigh A_subject NO m_length (12500 * s) n fr al p) → (fx o o [280, lno, 337] G0 G) → (G.length = G0.length) → (ab_slots G = ab_slots G0) → (Int.toNat (p + 1) < mz) → (∀ (G2 : ab_G) (NO2 : Int → Int) (Z2 : Int → Int) (w2 : Int) (c2 : Int) (cw2 : Int), (cc o G2 80 280 (ab_ob 12 (mof m_thrown m_taped m_length m_out w2 m_gathered m_sets m_ranges m_nodes m_at m_flags m_fault m_place m_numbered m_depth m_value m_isNot m_least0 m_most0 m_slot m_work m_got m_rowMany c2 cw2 m_trail m_isMatch m_matchGroups m_allFrom m_allBefore m_founds m_pieces m_writtenMany m_templateWide m_tooMuch))) → (cc o G2 no lno (zl 392196 NO2)) → (cc o G2 137 337 (zb 12500 Z2)) → (rgs Z2 12500 0 1) → (nrows A_step A_next A_more A_classAt A_classMany A_classLow A_classHigh A_subject NO2 m_length (12500 * s) n fr al (to - 1)) → (ncrows A_step A_next A_more A_classAt A_classMany A_classLow A_classHigh A_subject NO2 m_length (12500 * s) n fr al (to - 1)) → (fx o o [280, lno, 337] G0 G2) → (G2.length = G0.length) → (ab_slots G2 = ab_slots G0) → ab_W X (ab_pl y_MO_note b_MO_note 13 none) d G2 398 [none, none, none, none, none, none, none, none, none, none, none, none, none] [] Q) → ab_W X (ab_pl y_MO_note b_MO_note 13 none) d G 11 [some (vR 80), some (vR no), some (vz s), some (vz fr), some (vz to), some (vz al), some (vz n), some (vz p), none, none, none, none, none] [] Q := by
  intro mz
  induction mz with
  | zero => intro G p NO Z m_wide m_charAt m_charWide h80 hno h137 h118 h119 h120 h121 h122 h123 h124 h85 ci jz jr jc2 hfr hlen hsl hm hk0; exact absurd hm (Nat.not_lt_zero _)
  | succ mz ih =>
    intro G p NO Z m_wide m_charAt m_charWide h80 hno h137 h118 h119 h120 h121 h122 h123 h124 h85 ci jz jr jc2 hfr hlen hsl hm hk0
    refine ab_iload d_MO_note_11 rfl ?_
    refine ab_iload d_MO_note_13 rfl ?_
    refine zz_icmp_lt (tgt := 398) d_MO_note_15 (by decide) (by omega) (by omega) (fun c1 => ?_) (fun c1 => ?_)
    · refine ab_less (L' := [none, none, none, none, none, none, none, none, none, none, none, none, none]) (fun i v h => by rcases i with _ | _ | _ | _ | _ | _ | _ | _ | _ | _ | _ | _ | _ | i <;> first | exact h | (simp at h)) ?_
      exact hk0 _ _ _ _ _ _ h80 hno h137 (by exact jz) (by exact (show p = to - 1 by omega) ▸ jr) (by exact (show p = to - 1 by omega) ▸ jc2) hfr hlen hsl
    · refine ab_aload_n d_MO_note_18 rfl ?_
      refine ab_iload d_MO_note_19 rfl ?_
      refine ab_callV (d' := d - 1) (as := [vz p]) (st := []) (r := _) (z_MO_look (o := o) (m_thrown := m_thrown) (m_taped := m_taped) (m_length := m_length) (m_out := m_out) (m_wide := m_wide) (m_gathered := m_gathered) (m_sets := m_sets) (m_ranges := m_ranges) (m_nodes := m_nodes) (m_at := m_at) (m_flags := m_flags) (m_fault := m_fault) (m_place := m_place) (m_numbered := m_numbered) (m_depth := m_depth) (m_value := m_value) (m_isNot := m_isNot) (m_least0 := m_least0) (m_most0 := m_most0) (m_slot := m_slot) (m_work := m_work) (m_got := m_got) (m_rowMany := m_rowMany) (m_charAt := m_charAt) (m_charWide := m_charWide) (m_trail := m_trail) (m_isMatch := m_isMatch) (m_matchGroups := m_matchGroups) (m_allFrom := m_allFrom) (m_allBefore := m_allBefore) (m_founds := m_founds) (m_pieces := m_pieces) (m_writtenMany := m_writtenMany) (m_templateWide := m_templateWide) (m_tooMuch := m_tooMuch) (A_subject := A_subject) (p := p) h80 h85 (by omega) (by omega) jsb (by omega) (by omega)) (fun oc G2 h => by rcases h with ⟨_, _, h, _⟩ <;> exact ⟨_, h⟩) (by omega) m_MO_look ml_MO_522 im_MO_look se_MO_look c_MO h80.2.2 (Nat.le_of_ble_eq_true rfl) d_MO_note_21 rfl ?_
      intro v G2 hq
      rcases hq with ⟨c3, w4, hv, hfk, hlk, hsk, hN80, hq5, hq6, hq7⟩
      cases hv
      have hno := hfk.get hno (by simp only [List.mem_cons, List.not_mem_nil, or_false]; omega)
      have h137 := hfk.get h137 (by decide)
      have h118 := hfk.get h118 (by decide)
      have h119 := hfk.get h119 (by decide)
      have h120 := hfk.get h120 (by decide)
      have h121 := hfk.get h121 (by decide)
      have h122 := hfk.get h122 (by decide)
      have h123 := hfk.get h123 (by decide)
      have h124 := hfk.get h124 (by decide)
      have h85 := hfk.get h85 (by decide)
      have hfr := hfr.tr hfk (by simp)
      have hlen := hlk.trans hlen
      have hsl := hsk.trans hsl
      have h80 := hN80
      change ab_W _ _ _ G2 24 [some (vR 80), some (vR no), some (vz s), some (vz fr), some (vz to), some (vz al), some (vz n), some (vz p), none, none, none, none, none] [] _
      refine zz_iconst d_MO_note_24 ?_
      refine ab_istore d_MO_note_25 (Nat.le_of_ble_eq_true rfl) (Nat.le_of_ble_eq_true rfl) rfl ?_
      change ab_W _ _ _ G2 27 [some (vR 80), some (vR no), some (vz s), some (vz fr), some (vz to), some (vz al), some (vz n), some (vz p), some (vz 0), none, none, none, none] [] _
      refine y_MO_note_27 (no := no) (lno := lno) (s := s) (fr := fr) (to := to) (al := al) (n := n) (p := p) (NO0 := NO) (G0 := G2) (i_ := 0) (NO := NO) (by omega) (by omega) (by omega) (by omega) (by omega) (Int.toNat (196 - 0) + 1) hno (by omega) nclr_0 nsame_rf fx.rf rfl rfl (by omega) (fun G8 NO29 hNno hq10 hq11 hfk hlk hsk => ?_)
      · have h80 := hfk.get h80 (by simp only [List.mem_cons, List.not_mem_nil, or_false]; omega)
        have h137 := hfk.get h137 (by simp only [List.mem_cons, List.not_mem_nil, or_false]; omega)
        have h118 := hfk.get h118 (by simp only [List.mem_cons, List.not_mem_nil, or_false]; omega)
        have h119 := hfk.get h119 (by simp only [List.mem_cons, List.not_mem_nil, or_false]; omega)
        have h120 := hfk.get h120 (by simp only [List.mem_cons, List.not_mem_nil, or_false]; omega)
        have h121 := hfk.get h121 (by simp only [List.mem_cons, List.not_mem_nil, or_false]; omega)
        have h122 := hfk.get h122 (by simp only [List.mem_cons, List.not_mem_nil, or_false]; omega)
        have h123 := hfk.get h123 (by simp only [List.mem_cons, List.not_mem_nil, or_false]; omega)
        have h124 := hfk.get h124 (by simp only [List.mem_cons, List.not_mem_nil, or_false]; omega)
        have h85 := hfk.get h85 (by simp only [List.mem_cons, List.not_mem_nil, or_false]; omega)
        have hfr := hfr.tr hfk (by simp)
        have hlen := hlk.trans hlen
        have hsl := hsk.trans hsl
        have hno := hNno
        change ab_W _ _ _ G8 53 [some (vR 80), some (vR no), some (vz s), some (vz fr), some (vz to), some (vz al), some (vz n), some (vz p), none, none, none, none, none] [] _
        refine zz_iconst d_MO_note_53 ?_
        refine ab_istore d_MO_note_54 (Nat.le_of_ble_eq_true rfl) (Nat.le_of_ble_eq_true rfl) rfl ?_
        change ab_W _ _ _ G8 56 [some (vR 80), some (vR no), some (vz s), some (vz fr), some (vz to), some (vz al), some (vz n), some (vz p), some (vz 0), none, none, none, none] [] _
        refine y_MO_note_56 (m_thrown := m_thrown) (m_taped := m_taped) (m_length := m_length) (m_out := m_out) (m_wide := w4) (m_gathered := m_gathered) (m_sets := m_sets) (m_ranges := m_ranges) (m_nodes := m_nodes) (m_at := m_at) (m_flags := m_flags) (m_fault := m_fault) (m_place := m_place) (m_numbered := m_numbered) (m_depth := m_depth) (m_value := m_value) (m_isNot := m_isNot) (m_least0 := m_least0) (m_most0 := m_most0) (m_slot := m_slot) (m_work := m_work) (m_got := m_got) (m_rowMany := m_rowMany) (m_charAt := c3) (m_charWide := w4) (m_trail := m_trail) (m_isMatch := m_isMatch) (m_matchGroups := m_matchGroups) (m_allFrom := m_allFrom) (m_allBefore := m_allBefore) (m_founds := m_founds) (m_pieces := m_pieces) (m_writtenMany := m_writtenMany) (m_templateWide := m_templateWide) (m_tooMuch := m_tooMuch) (A_step := A_step) (A_next := A_next) (A_classAt := A_classAt) (A_classMany := A_classMany) (A_classLow := A_classLow) (A_classHigh := A_classHigh) (no := no) (lno := lno) (NO := NO29) (s := s) (fr := fr) (to := to) (al := al) (n := n) (p := p) (G0 := G8) (k := 0) (Z := Z) (by omega) (by omega) (by omega) (by omega) (by omega) jsg jst jcl jch (by omega) (by omega) hq5 (by omega) (Int.toNat (n - 0) + 1) h80 hno h137 h118 h119 h121 h122 h123 h124 (by omega) jz nsz_0 nsc_0 fx.rf rfl rfl (by omega) (fun G12 Z213 hN137 hq14 hq15 hq16 hfk hlk hsk => ?_)
        · have h80 := hfk.get h80 (by decide)
          have hno := hfk.get hno (by simp only [List.mem_cons, List.not_mem_nil, or_false]; omega)
          have h118 := hfk.get h118 (by decide)
          have h119 := hfk.get h119 (by decide)
          have h120 := hfk.get h120 (by decide)
          have h121 := hfk.get h121 (by decide)
          have h122 := hfk.get h122 (by decide)
          have h123 := hfk.get h123 (by decide)
          have h124 := hfk.get h124 (by decide)
          have h85 := hfk.get h85 (by decide)
          have hfr := hfr.tr hfk (by simp)
          have hlen := hlk.trans hlen
          have hsl := hsk.trans hsl
          have h137 := hN137
          change ab_W _ _ _ G12 171 [some (vR 80), some (vR no), some (vz s), some (vz fr), some (vz to), some (vz al), some (vz n), some (vz p), none, none, none, none, none] [] _
          refine zz_iconst d_MO_note_171 ?_
          refine ab_istore d_MO_note_172 (Nat.le_of_ble_eq_true rfl) (Nat.le_of_ble_eq_true rfl) rfl ?_
          change ab_W _ _ _ G12 174 [some (vR 80), some (vR no), some (vz s), some (vz fr), some (vz to), some (vz al), some (vz n), some (vz p), some (vz 1), none, none, none, none] [] _
          refine y_MO_note_174 (m_thrown := m_thrown) (m_taped := m_taped) (m_length := m_length) (m_out := m_out) (m_wide := w4) (m_gathered := m_gathered) (m_sets := m_sets) (m_ranges := m_ranges) (m_nodes := m_nodes) (m_at := m_at) (m_flags := m_flags) (m_fault := m_fault) (m_place := m_place) (m_numbered := m_numbered) (m_depth := m_depth) (m_value := m_value) (m_isNot := m_isNot) (m_least0 := m_least0) (m_most0 := m_most0) (m_slot := m_slot) (m_work := m_work) (m_got := m_got) (m_rowMany := m_rowMany) (m_charAt := c3) (m_charWide := w4) (m_trail := m_trail) (m_isMatch := m_isMatch) (m_matchGroups := m_matchGroups) (m_allFrom := m_allFrom) (m_allBefore := m_allBefore) (m_founds := m_founds) (m_pieces := m_pieces) (m_writtenMany := m_writtenMany) (m_templateWide := m_templateWide) (m_tooMuch := m_tooMuch) (A_subject := A_subject) (A_step := A_step) (A_next := A_next) (A_more := A_more) (no := no) (s := s) (fr := fr) (to := to) (al := al) (n := n) (p := p) (G0 := G12) (gr := 1) (Z := Z213) (by omega) (by omega) (by omega) (by omega) jsg jst jsb (by omega) (Int.toNat (nz Z213 n + 1) + 1) h80 h137 h118 h119 h120 h85 (by omega) hq14 (ngr_0 hq15) (fun h => absurd h (by decide)) hq16 fx.rf rfl rfl (by omega) (fun G17 Z218 hN137 hq19 hq20 hq21 hq22 hfk hlk hsk => ?_)
          · have h80 := hfk.get h80 (by decide)
            have hno := hfk.get hno (by simp only [List.mem_cons, List.not_mem_nil, or_false]; omega)
            have h118 := hfk.get h118 (by decide)
            have h119 := hfk.get h119 (by decide)
            have h120 := hfk.get h120 (by decide)
            have h121 := hfk.get h121 (by decide)
            have h122 := hfk.get h122 (by decide)
            have h123 := hfk.get h123 (by decide)
            have h124 := hfk.get h124 (by decide)
            have h85 := hfk.get h85 (by decide)
            have hfr := hfr.tr hfk (by simp)
            have hlen := hlk.trans hlen
            have hsl := hsk.trans hsl
            have h137 := hN137
            change ab_W _ _ _ G17 358 [some (vR 80), some (vR no), some (vz s), some (vz fr), some (vz to), some (vz al), some (vz n), some (vz p), none, none, none, none, none] [] _
            refine zz_iconst d_MO_note_358 ?_
            refine ab_istore d_MO_note_359 (Nat.le_of_ble_eq_true rfl) (Nat.le_of_ble_eq_true rfl) rfl ?_
            change ab_W _ _ _ G17 361 [some (vR 80), some (vR no), some (vz s), some (vz fr), some (vz to), some (vz al), some (vz n), some (vz p), none, some (vz 0), none, none, none] [] _
            refine y_MO_note_361 (m_thrown := m_thrown) (m_taped := m_taped) (m_length := m_length) (m_out := m_out) (m_wide := w4) (m_gathered := m_gathered) (m_sets := m_sets) (m_ranges := m_ranges) (m_nodes := m_nodes) (m_at := m_at) (m_flags := m_flags) (m_fault := m_fault) (m_place := m_place) (m_numbered := m_numbered) (m_depth := m_depth) (m_value := m_value) (m_isNot := m_isNot) (m_least0 := m_least0) (m_most0 := m_most0) (m_slot := m_slot) (m_work := m_work) (m_got := m_got) (m_rowMany := m_rowMany) (m_charAt := c3) (m_charWide := w4) (m_trail := m_trail) (m_isMatch := m_isMatch) (m_matchGroups := m_matchGroups) (m_allFrom := m_allFrom) (m_allBefore := m_allBefore) (m_founds := m_founds) (m_pieces := m_pieces) (m_writtenMany := m_writtenMany) (m_templateWide := m_templateWide) (m_tooMuch := m_tooMuch) (no := no) (lno := lno) (Z := Z218) (s := s) (fr := fr) (to := to) (al := al) (n := n) (p := p) (NO0 := NO29) (G0 := G17) (k := 0) (NO := NO29) (by omega) (by omega) (by omega) (by omega) (by omega) hq19 (by omega) (Int.toNat (n - 0) + 1) h80 h137 hno (by omega) (nmkb_0 hq10) nsame_rf fx.rf rfl rfl (by omega) (fun G23 NO224 hNno hq25 hq26 hfk hlk hsk => ?_)
            · have h80 := hfk.get h80 (by simp only [List.mem_cons, List.not_mem_nil, or_false]; omega)
              have h137 := hfk.get h137 (by simp only [List.mem_cons, List.not_mem_nil, or_false]; omega)
              have h118 := hfk.get h118 (by simp only [List.mem_cons, List.not_mem_nil, or_false]; omega)
              have h119 := hfk.get h119 (by simp only [List.mem_cons, List.not_mem_nil, or_false]; omega)
              have h120 := hfk.get h120 (by simp only [List.mem_cons, List.not_mem_nil, or_false]; omega)
              have h121 := hfk.get h121 (by simp only [List.mem_cons, List.not_mem_nil, or_false]; omega)
              have h122 := hfk.get h122 (by simp only [List.mem_cons, List.not_mem_nil, or_false]; omega)
              have h123 := hfk.get h123 (by simp only [List.mem_cons, List.not_mem_nil, or_false]; omega)
              have h124 := hfk.get h124 (by simp only [List.mem_cons, List.not_mem_nil, or_false]; omega)
              have h85 := hfk.get h85 (by simp only [List.mem_cons, List.not_mem_nil, or_false]; omega)
              have hfr := hfr.tr hfk (by simp)
              have hlen := hlk.trans hlen
              have hsl := hsk.trans hsl
              have hno := hNno
              change ab_W _ _ _ G23 392 [some (vR 80), some (vR no), some (vz s), some (vz fr), some (vz to), some (vz al), some (vz n), some (vz p), none, none, none, none, none] [] _
              refine zz_iinc d_MO_note_392 rfl (Nat.le_of_ble_eq_true rfl) (Nat.le_of_ble_eq_true rfl) rfl ?_
              change ab_W _ _ _ G23 395 [some (vR 80), some (vR no), some (vz s), some (vz fr), some (vz to), some (vz al), some (vz n), some (vz (p + (-1))), none, none, none, none, none] [] _
              refine ab_goto (tgt := 11) d_MO_note_395 (by decide) ?_
              exact ih (p := (p + (-1))) (NO := NO224) (Z := Z218) (m_wide := w4) (m_charAt := c3) (m_charWide := w4) h80 hno h137 h118 h119 h120 h121 h122 h123 h124 h85 (by omega) hq19 (by rw [show p + -1 = p - 1 by omega]; exact nrows_s jr hq20 jsg (by omega) (nsame_tr hq11 hq26) hq26 hq25) (by rw [show p + -1 = p - 1 by omega]; exact ncrows_s jc2 hq21 hq22 jsg (by omega) (nsame_tr hq11 hq26) hq26 hq25) hfr hlen hsl (by omega) hk0
set_option maxRecDepth 100000 in
set_option maxHeartbeats 4000000 in
theorem z_MO_note {X : ab_X} {d : Nat} {o : Nat → Nat} {G : ab_G} {m_thrown : Int} {m_taped : Int} {m_length : Int} {m_out : Int} {m_wide : Int} {m_gathered : Int} {m_sets : Int} {m_ranges : Int} {m_nodes : Int} {m_at : Int} {m_flags : Int} {m_fault : Int} {m_place : Int} {m_numbered : Int} {m_depth : Int} {m_value : Int} {m_isNot : Int} {m_least0 : Int} {m_most0 : Int} {m_slot : Int} {m_work : Int} {m_got : Int} {m_rowMany : Int} {m_charAt : Int} {m_charWide : Int} {m_trail : Int} {m_isMatch : Int} {m_matchGroups : Int} {m_allFrom : Int} {m_allBefore : Int} {m_founds : Int} {m_pieces : Int} {m_writtenMany : Int} {m_templateWide : Int} {m_tooMuch : Int} {A_subject : Int → Int} {A_stepMany : Int → Int} {A_step : Int → Int} {A_next : Int → Int} {A_more : Int → Int} {A_classAt : Int → Int} {A_classMany : Int → Int} {A_classLow : Int → Int} {A_classHigh : Int → Int} {no : Nat} {lno : Nat} {NO : Int → Int} {Z : Int → Int} {s : Int} {fr : Int} {to : Int} {al : Int} (h80 : cc o G 80 280 (ab_ob 12 (mof m_thrown m_taped m_length m_out m_wide m_gathered m_sets m_ranges m_nodes m_at m_flags m_fault m_place m_numbered m_depth m_value m_isNot m_least0 m_most0 m_slot m_work m_got m_rowMany m_charAt m_charWide m_trail m_isMatch m_matchGroups m_allFrom m_allBefore m_founds m_pieces m_writtenMany m_templateWide m_tooMuch))) (hno : cc o G no lno (zl 392196 NO)) (h137 : cc o G 137 337 (zb 12500 Z)) (h118 : cc o G 118 318 (za 75000 A_step)) (h119 : cc o G 119 319 (za 75000 A_next)) (h120 : cc o G 120 320 (za 75000 A_more)) (h121 : cc o G 121 321 (za 75000 A_classAt)) (h122 : cc o G 122 322 (za 75000 A_classMany)) (h123 : cc o G 123 323 (za 3600 A_classLow)) (h124 : cc o G 124 324 (za 3600 A_classHigh)) (h85 : cc o G 85 285 (za 2000 A_subject)) (h117 : cc o G 117 317 (za 6 A_stepMany)) (n18 : ab_n0 = 18) (cno : 334 ≤ lno ∧ lno ≤ 336) (cle : 0 ≤ m_length ∧ m_length ≤ 2000) (cs : 0 ≤ s ∧ s ≤ 5 ∧ 0 ≤ (A_stepMany s) ∧ (A_stepMany s) ≤ 12500 ∧ 0 ≤ al ∧ al ≤ 1) (jsg : sgood A_step A_next A_more A_classAt A_classMany (12500 * s) (A_stepMany s)) (jst : rgs A_step 75000 0 6) (jcl : rgs A_classLow 3600 0 1114111) (jch : rgs A_classHigh 3600 0 1114111) (jsb : rgs A_subject 2000 0 255) (cfr : 0 ≤ to ∧ -1 ≤ fr ∧ fr ≤ m_length ∧ to ≤ fr + 1) (jz : rgs Z 12500 0 1) (hd : 6 ≤ d) : ab_F X d y_MO_note (.code y_MO_note b_MO_note 13 none) [vR 80, vR no, vz s, vz fr, vz to, vz al] G (fun oc G2 => ∃ NO2 : Int → Int, ∃ Z2 : Int → Int, ∃ w2 : Int, ∃ c2 : Int, ∃ cw2 : Int, oc = .returned none ∧ fx o o [280, lno, 337] G G2 ∧ G2.length = G.length ∧ ab_slots G2 = ab_slots G ∧ cc o G2 80 280 (ab_ob 12 (mof m_thrown m_taped m_length m_out w2 m_gathered m_sets m_ranges m_nodes m_at m_flags m_fault m_place m_numbered m_depth m_value m_isNot m_least0 m_most0 m_slot m_work m_got m_rowMany c2 cw2 m_trail m_isMatch m_matchGroups m_allFrom m_allBefore m_founds m_pieces m_writtenMany m_templateWide m_tooMuch)) ∧ cc o G2 no lno (zl 392196 NO2) ∧ cc o G2 137 337 (zb 12500 Z2) ∧ (rgs Z2 12500 0 1) ∧ (nrows A_step A_next A_more A_classAt A_classMany A_classLow A_classHigh A_subject NO2 m_length (12500 * s) (A_stepMany s) fr al (to - 1)) ∧ (ncrows A_step A_next A_more A_classAt A_classMany A_classLow A_classHigh A_subject NO2 m_length (12500 * s) (A_stepMany s) fr al (to - 1))) := by
  refine ab_F_of (by decide +kernel) (Nat.le_of_ble_eq_true rfl) ?_
  obtain ⟨Q, hQ⟩ : ∃ z : Outcome → ab_G → Prop, z = (fun oc G2 => ∃ NO2 : Int → Int, ∃ Z2 : Int → Int, ∃ w2 : Int, ∃ c2 : Int, ∃ cw2 : Int, oc = .returned none ∧ fx o o [280, lno, 337] G G2 ∧ G2.length = G.length ∧ ab_slots G2 = ab_slots G ∧ cc o G2 80 280 (ab_ob 12 (mof m_thrown m_taped m_length m_out w2 m_gathered m_sets m_ranges m_nodes m_at m_flags m_fault m_place m_numbered m_depth m_value m_isNot m_least0 m_most0 m_slot m_work m_got m_rowMany c2 cw2 m_trail m_isMatch m_matchGroups m_allFrom m_allBefore m_founds m_pieces m_writtenMany m_templateWide m_tooMuch)) ∧ cc o G2 no lno (zl 392196 NO2) ∧ cc o G2 137 337 (zb 12500 Z2) ∧ (rgs Z2 12500 0 1) ∧ (nrows A_step A_next A_more A_classAt A_classMany A_classLow A_classHigh A_subject NO2 m_length (12500 * s) (A_stepMany s) fr al (to - 1)) ∧ (ncrows A_step A_next A_more A_classAt A_classMany A_classLow A_classHigh A_subject NO2 m_length (12500 * s) (A_stepMany s) fr al (to - 1))) := ⟨_, rfl⟩
  rw [← hQ]
  change ab_W X (ab_pl y_MO_note b_MO_note 13 none) d G 0 [some (vR 80), some (vR no), some (vz s), some (vz fr), some (vz to), some (vz al), none, none, none, none, none, none, none] [] Q
  have hfr : fx o o [280, lno, 337] G G := fx.rf
  have hlen : G.length = G.length := rfl
  have hsl : ab_slots G = ab_slots G := rfl
  refine ab_aload_n d_MO_note_0 rfl ?_
  refine ab_getf (fs := mof m_thrown m_taped m_length m_out m_wide m_gathered m_sets m_ranges m_nodes m_at m_flags m_fault m_place m_numbered m_depth m_value m_isNot m_least0 m_most0 m_slot m_work m_got m_rowMany m_charAt m_charWide m_trail m_isMatch m_matchGroups m_allFrom m_allBefore m_founds m_pieces m_writtenMany m_templateWide m_tooMuch) f_MO_124 d_MO_note_1 h80.2.2 rfl ?_
  refine ab_iload_n d_MO_note_4 rfl ?_
  refine zz_iald d_MO_note_5 h117 (by omega) ?_
  refine ab_istore d_MO_note_6 (Nat.le_of_ble_eq_true rfl) (Nat.le_of_ble_eq_true rfl) rfl ?_
  change ab_W _ _ _ G 8 [some (vR 80), some (vR no), some (vz s), some (vz fr), some (vz to), some (vz al), some (vz (A_stepMany s)), none, none, none, none, none, none] [] _
  refine ab_iload_n d_MO_note_8 rfl ?_
  refine ab_istore d_MO_note_9 (Nat.le_of_ble_eq_true rfl) (Nat.le_of_ble_eq_true rfl) rfl ?_
  change ab_W _ _ _ G 11 [some (vR 80), some (vR no), some (vz s), some (vz fr), some (vz to), some (vz al), some (vz (A_stepMany s)), some (vz fr), none, none, none, none, none] [] _
  refine y_MO_note_11 (m_thrown := m_thrown) (m_taped := m_taped) (m_length := m_length) (m_out := m_out) (m_gathered := m_gathered) (m_sets := m_sets) (m_ranges := m_ranges) (m_nodes := m_nodes) (m_at := m_at) (m_flags := m_flags) (m_fault := m_fault) (m_place := m_place) (m_numbered := m_numbered) (m_depth := m_depth) (m_value := m_value) (m_isNot := m_isNot) (m_least0 := m_least0) (m_most0 := m_most0) (m_slot := m_slot) (m_work := m_work) (m_got := m_got) (m_rowMany := m_rowMany) (m_trail := m_trail) (m_isMatch := m_isMatch) (m_matchGroups := m_matchGroups) (m_allFrom := m_allFrom) (m_allBefore := m_allBefore) (m_founds := m_founds) (m_pieces := m_pieces) (m_writtenMany := m_writtenMany) (m_templateWide := m_templateWide) (m_tooMuch := m_tooMuch) (A_subject := A_subject) (A_step := A_step) (A_next := A_next) (A_more := A_more) (A_classAt := A_classAt) (A_classMany := A_classMany) (A_classLow := A_classLow) (A_classHigh := A_classHigh) (no := no) (lno := lno) (s := s) (fr := fr) (to := to) (al := al) (n := (A_stepMany s)) (G0 := G) (p := fr) (NO := NO) (Z := Z) (m_wide := m_wide) (m_charAt := m_charAt) (m_charWide := m_charWide) (by omega) (by omega) (by omega) (by omega) jsg jst jcl jch jsb (by omega) (by omega) (Int.toNat (fr + 1) + 1) h80 hno h137 h118 h119 h120 h121 h122 h123 h124 h85 (by omega) jz nrows_0 ncrows_0 fx.rf rfl rfl (by omega) (fun G1 NO22 Z23 w24 c25 cw26 hN80 hNno hN137 hq7 hq8 hq9 hfk hlk hsk => ?_)
  · have h118 := hfk.get h118 (by simp only [List.mem_cons, List.not_mem_nil, or_false]; omega)
    have h119 := hfk.get h119 (by simp only [List.mem_cons, List.not_mem_nil, or_false]; omega)
    have h120 := hfk.get h120 (by simp only [List.mem_cons, List.not_mem_nil, or_false]; omega)
    have h121 := hfk.get h121 (by simp only [List.mem_cons, List.not_mem_nil, or_false]; omega)
    have h122 := hfk.get h122 (by simp only [List.mem_cons, List.not_mem_nil, or_false]; omega)
    have h123 := hfk.get h123 (by simp only [List.mem_cons, List.not_mem_nil, or_false]; omega)
    have h124 := hfk.get h124 (by simp only [List.mem_cons, List.not_mem_nil, or_false]; omega)
    have h85 := hfk.get h85 (by simp only [List.mem_cons, List.not_mem_nil, or_false]; omega)
    have h117 := hfk.get h117 (by simp only [List.mem_cons, List.not_mem_nil, or_false]; omega)
    have hfr := hfr.tr hfk (by simp)
    have hlen := hlk.trans hlen
    have hsl := hsk.trans hsl
    have h80 := hN80
    have hno := hNno
    have h137 := hN137
    change ab_W _ _ _ G1 398 [none, none, none, none, none, none, none, none, none, none, none, none, none] [] _
    refine ab_vret rfl d_MO_note_398 ?_
    rw [hQ]; exact ⟨_, _, _, _, _, rfl, hfr, hlen, hsl, h80, hno, h137, (by first | exact hq7 | exact rgs_w hq7 (by omega)), (by exact hq8), (by exact hq9)⟩
