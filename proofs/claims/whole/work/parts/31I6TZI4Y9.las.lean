set_option maxRecDepth 100000 in
set_option maxHeartbeats 4000000 in
theorem y_MO_lastEnd_66 {X : ab_X} {d : Nat} {Q : Outcome → ab_G → Prop} {o : Nat → Nat} {G0 : ab_G} {m_thrown : Int} {m_taped : Int} {m_length : Int} {m_out : Int} {m_gathered : Int} {m_sets : Int} {m_ranges : Int} {m_nodes : Int} {m_at : Int} {m_flags : Int} {m_fault : Int} {m_place : Int} {m_numbered : Int} {m_depth : Int} {m_value : Int} {m_isNot : Int} {m_least0 : Int} {m_most0 : Int} {m_slot : Int} {m_work : Int} {m_got : Int} {m_rowMany : Int} {m_trail : Int} {m_isMatch : Int} {m_matchGroups : Int} {m_allFrom : Int} {m_allBefore : Int} {m_founds : Int} {m_pieces : Int} {m_writtenMany : Int} {m_templateWide : Int} {m_tooMuch : Int} {A_subject : Int → Int} {A_step : Int → Int} {A_next : Int → Int} {A_more : Int → Int} {A_classAt : Int → Int} {A_classMany : Int → Int} {A_classLow : Int → Int} {A_classHigh : Int → Int} {s : Int} {fm : Int} {n : Int} {en : Int} (n18 : ab_n0 = 18) (cle : 0 ≤ m_length ∧ m_length ≤ 2000) (cs : 0 ≤ s ∧ s ≤ 5 ∧ 0 ≤ n ∧ n ≤ 12500) (jsg : sgood A_step A_next A_more A_classAt A_classMany (12500 * s) n) (jst : rgs A_step 75000 0 6) (jcl : rgs A_classLow 3600 0 1114111) (jch : rgs A_classHigh 3600 0 1114111) (jsb : rgs A_subject 2000 0 255) (cf : 0 ≤ fm ∧ fm ≤ m_length ∧ 0 ≤ en ∧ en < n) (hd : 5 ≤ d) : ∀ (mz : Nat) {G : ab_G} {ls : Int} {cl : Int} {far : Int} {p : Int} {CO : Int → Int} {m_wide : Int} {m_charAt : Int} {m_charWide : Int}, (cc o G 80 280 (ab_ob 12 (mof m_thrown m_taped m_length m_out m_wide m_gathered m_sets m_ranges m_nodes m_at m_flags m_fault m_place m_numbered m_depth m_value m_isNot m_least0 m_most0 m_slot m_work m_got m_rowMany m_charAt m_charWide m_trail m_isMatch m_matchGroups m_allFrom m_allBefore m_founds m_pieces m_writtenMany m_templateWide m_tooMuch))) → (cc o G 136 336 (zl 392196 CO)) → (cc o G 118 318 (za 75000 A_step)) → (cc o G 119 319 (za 75000 A_next)) → (cc o G 120 320 (za 75000 A_more)) → (cc o G 121 321 (za 75000 A_classAt)) → (cc o G 122 322 (za 75000 A_classMany)) → (cc o G 123 323 (za 3600 A_classLow)) → (cc o G 124 324 (za 3600 A_classHigh)) → (cc o G 85 285 (za 2000 A_subject)) → (fm ≤ p ∧ p ≤ far + 1 ∧ far ≤ cl ∧ cl ≤ m_length ∧ fm ≤ far ∧ -1 ≤ ls ∧ ls < p) → (cld A_step A_next A_more A_classAt A_classMany A_classLow A_classHigh A_subject CO m_length (12500 * s) n fm en cl) → (fcls A_step A_next A_more A_classAt A_classMany A_classLow A_classHigh A_subject CO m_length (12500 * s) n far ls fm p) → (nbit CO fm en) → (0 ≤ ls → fm ≤ ls ∧ lend A_step A_next A_more A_classAt A_classMany A_classLow A_classHigh A_subject m_length (12500 * s) n fm en ls) → (fx o o [280, 336] G0 G) → (G.length = G0.length) → (ab_slots G = ab_slots G0) → (Int.toNat (m_length + 1 - p) < mz) → (∀ (G2 : ab_G) (l2 : Int) (c2 : Int) (f2 : Int) (w2 : Int) (ch2 : Int) (cw2 : Int) (C2 : Int → Int), (cc o G2 80 280 (ab_ob 12 (mof m_thrown m_taped m_length m_out w2 m_gathered m_sets m_ranges m_nodes m_at m_flags m_fault m_place m_numbered m_depth m_value m_isNot m_least0 m_most0 m_slot m_work m_got m_rowMany ch2 cw2 m_trail m_isMatch m_matchGroups m_allFrom m_allBefore m_founds m_pieces m_writtenMany m_templateWide m_tooMuch))) → (cc o G2 136 336 (zl 392196 C2)) → (fm ≤ f2 ∧ f2 ≤ m_length ∧ -1 ≤ l2 ∧ l2 ≤ m_length) → (fcls A_step A_next A_more A_classAt A_classMany A_classLow A_classHigh A_subject C2 m_length (12500 * s) n f2 l2 fm (f2 + 1)) → (nbit C2 fm en) → (0 ≤ l2 → fm ≤ l2 ∧ lend A_step A_next A_more A_classAt A_classMany A_classLow A_classHigh A_subject m_length (12500 * s) n fm en l2) → (fx o o [280, 336] G0 G2) → (G2.length = G0.length) → (ab_slots G2 = ab_slots G0) → ab_W X (ab_pl y_MO_lastEnd b_MO_lastEnd 13 (some (.int))) d G2 466 [none, none, none, none, some (vz l2), none, none, none, none, none, none, none, none] [] Q) → ab_W X (ab_pl y_MO_lastEnd b_MO_lastEnd 13 (some (.int))) d G 66 [some (vR 80), some (vz s), some (vz fm), some (vz n), some (vz ls), some (vz cl), some (vz far), some (vz p), none, none, none, none, none] [] Q := by
  intro mz
  induction mz with
  | zero => intro G ls cl far p CO m_wide m_charAt m_charWide h80 h136 h118 h119 h120 h121 h122 h123 h124 h85 ci jl jf jb je hfr hlen hsl hm hk0; exact absurd hm (Nat.not_lt_zero _)
  | succ mz ih =>
    intro G ls cl far p CO m_wide m_charAt m_charWide h80 h136 h118 h119 h120 h121 h122 h123 h124 h85 ci jl jf jb je hfr hlen hsl hm hk0
    refine ab_iload d_MO_lastEnd_66 rfl ?_
    refine ab_iload d_MO_lastEnd_68 rfl ?_
    refine zz_icmp_gt (tgt := 466) d_MO_lastEnd_70 (by decide) (by omega) (by omega) (fun c1 => ?_) (fun c1 => ?_)
    · refine ab_less (L' := [none, none, none, none, some (vz ls), none, none, none, none, none, none, none, none]) (fun i v h => by rcases i with _ | _ | _ | _ | _ | _ | _ | _ | _ | _ | _ | _ | _ | i <;> first | exact h | (simp at h)) ?_
      exact hk0 _ _ cl far _ _ _ _ h80 h136 (by omega) (by exact (show p = far + 1 by omega) ▸ jf) (by exact jb) (by exact je) hfr hlen hsl
    · refine y_MO_lastEnd_73 (m_thrown := m_thrown) (m_taped := m_taped) (m_length := m_length) (m_out := m_out) (m_wide := m_wide) (m_gathered := m_gathered) (m_sets := m_sets) (m_ranges := m_ranges) (m_nodes := m_nodes) (m_at := m_at) (m_flags := m_flags) (m_fault := m_fault) (m_place := m_place) (m_numbered := m_numbered) (m_depth := m_depth) (m_value := m_value) (m_isNot := m_isNot) (m_least0 := m_least0) (m_most0 := m_most0) (m_slot := m_slot) (m_work := m_work) (m_got := m_got) (m_rowMany := m_rowMany) (m_charAt := m_charAt) (m_charWide := m_charWide) (m_trail := m_trail) (m_isMatch := m_isMatch) (m_matchGroups := m_matchGroups) (m_allFrom := m_allFrom) (m_allBefore := m_allBefore) (m_founds := m_founds) (m_pieces := m_pieces) (m_writtenMany := m_writtenMany) (m_templateWide := m_templateWide) (m_tooMuch := m_tooMuch) (CO0 := CO) (s := s) (fm := fm) (n := n) (ls := ls) (cl0 := cl) (far := far) (p := p) (G0 := G) (cl := cl) (CO := CO) (by omega) (by omega) (by omega) (by omega) (Int.toNat (m_length - cl) + 1) h80 h136 (by omega) nlo_rf nemps_0 fx.rf rfl rfl (by omega) (fun G2 c23 C24 hN136 hq5 hq6 hq7 hq8 hfk hlk hsk => ?_)
      · have h80 := hfk.get h80 (by decide)
        have h118 := hfk.get h118 (by decide)
        have h119 := hfk.get h119 (by decide)
        have h120 := hfk.get h120 (by decide)
        have h121 := hfk.get h121 (by decide)
        have h122 := hfk.get h122 (by decide)
        have h123 := hfk.get h123 (by decide)
        have h124 := hfk.get h124 (by decide)
        have h85 := hfk.get h85 (by decide)
        have hfr := hfr.tr hfk (by decide)
        have hlen := hlk.trans hlen
        have hsl := hsk.trans hsl
        have h136 := hN136
        change ab_W _ _ _ G2 129 [some (vR 80), some (vz s), some (vz fm), some (vz n), some (vz ls), some (vz c23), some (vz far), some (vz p), none, none, none, none, none] [] _
        refine ab_aload_n d_MO_lastEnd_129 rfl ?_
        refine ab_iload d_MO_lastEnd_130 rfl ?_
        refine ab_callV (d' := d - 1) (as := [vz p]) (st := []) (r := _) (z_MO_look (o := o) (m_thrown := m_thrown) (m_taped := m_taped) (m_length := m_length) (m_out := m_out) (m_wide := m_wide) (m_gathered := m_gathered) (m_sets := m_sets) (m_ranges := m_ranges) (m_nodes := m_nodes) (m_at := m_at) (m_flags := m_flags) (m_fault := m_fault) (m_place := m_place) (m_numbered := m_numbered) (m_depth := m_depth) (m_value := m_value) (m_isNot := m_isNot) (m_least0 := m_least0) (m_most0 := m_most0) (m_slot := m_slot) (m_work := m_work) (m_got := m_got) (m_rowMany := m_rowMany) (m_charAt := m_charAt) (m_charWide := m_charWide) (m_trail := m_trail) (m_isMatch := m_isMatch) (m_matchGroups := m_matchGroups) (m_allFrom := m_allFrom) (m_allBefore := m_allBefore) (m_founds := m_founds) (m_pieces := m_pieces) (m_writtenMany := m_writtenMany) (m_templateWide := m_templateWide) (m_tooMuch := m_tooMuch) (A_subject := A_subject) (p := p) h80 h85 (by omega) (by omega) jsb (by omega) (by omega)) (fun oc G2 h => by rcases h with ⟨_, _, h, _⟩ <;> exact ⟨_, h⟩) (by omega) m_MO_look ml_MO_522 im_MO_look se_MO_look c_MO h80.2.2 (Nat.le_of_ble_eq_true rfl) d_MO_lastEnd_132 rfl ?_
        intro v G9 hq
        rcases hq with ⟨c10, w11, hv, hfk, hlk, hsk, hN80, hq12, hq13, hq14⟩
        cases hv
        have h136 := hfk.get h136 (by decide)
        have h118 := hfk.get h118 (by decide)
        have h119 := hfk.get h119 (by decide)
        have h120 := hfk.get h120 (by decide)
        have h121 := hfk.get h121 (by decide)
        have h122 := hfk.get h122 (by decide)
        have h123 := hfk.get h123 (by decide)
        have h124 := hfk.get h124 (by decide)
        have h85 := hfk.get h85 (by decide)
        have hfr := hfr.tr hfk (by decide)
        have hlen := hlk.trans hlen
        have hsl := hsk.trans hsl
        have h80 := hN80
        change ab_W _ _ _ G9 135 [some (vR 80), some (vz s), some (vz fm), some (vz n), some (vz ls), some (vz c23), some (vz far), some (vz p), none, none, none, none, none] [] _
        refine zz_iconst d_MO_lastEnd_135 ?_
        refine ab_istore d_MO_lastEnd_136 (Nat.le_of_ble_eq_true rfl) (Nat.le_of_ble_eq_true rfl) rfl ?_
        change ab_W _ _ _ G9 138 [some (vR 80), some (vz s), some (vz fm), some (vz n), some (vz ls), some (vz c23), some (vz far), some (vz p), some (vz 1), none, none, none, none] [] _
        refine y_MO_lastEnd_138 (m_thrown := m_thrown) (m_taped := m_taped) (m_length := m_length) (m_out := m_out) (m_wide := w11) (m_gathered := m_gathered) (m_sets := m_sets) (m_ranges := m_ranges) (m_nodes := m_nodes) (m_at := m_at) (m_flags := m_flags) (m_fault := m_fault) (m_place := m_place) (m_numbered := m_numbered) (m_depth := m_depth) (m_value := m_value) (m_isNot := m_isNot) (m_least0 := m_least0) (m_most0 := m_most0) (m_slot := m_slot) (m_work := m_work) (m_got := m_got) (m_rowMany := m_rowMany) (m_charAt := c10) (m_charWide := w11) (m_trail := m_trail) (m_isMatch := m_isMatch) (m_matchGroups := m_matchGroups) (m_allFrom := m_allFrom) (m_allBefore := m_allBefore) (m_founds := m_founds) (m_pieces := m_pieces) (m_writtenMany := m_writtenMany) (m_templateWide := m_templateWide) (m_tooMuch := m_tooMuch) (A_subject := A_subject) (A_step := A_step) (A_next := A_next) (A_more := A_more) (CO0 := C24) (s := s) (fm := fm) (n := n) (ls := ls) (cl := c23) (far := far) (p := p) (en := en) (G0 := G9) (gr := 1) (CO := C24) (by omega) (by omega) (by omega) jsg jst jsb (by omega) (by omega) (Int.toNat (bz (fun i => nbit C24 p i) n + 1) + 1) h80 h136 h118 h119 h120 h85 (by omega) (cld_ext jl hq7 hq8) csm_rf (fun h => absurd h (by decide)) fx.rf rfl rfl (by omega) (fun G15 C216 hN136 hq17 hq18 hq19 hfk hlk hsk => ?_)
        · have h80 := hfk.get h80 (by decide)
          have h118 := hfk.get h118 (by decide)
          have h119 := hfk.get h119 (by decide)
          have h120 := hfk.get h120 (by decide)
          have h121 := hfk.get h121 (by decide)
          have h122 := hfk.get h122 (by decide)
          have h123 := hfk.get h123 (by decide)
          have h124 := hfk.get h124 (by decide)
          have h85 := hfk.get h85 (by decide)
          have hfr := hfr.tr hfk (by decide)
          have hlen := hlk.trans hlen
          have hsl := hsk.trans hsl
          have h136 := hN136
          change ab_W _ _ _ G15 335 [some (vR 80), some (vz s), some (vz fm), some (vz n), some (vz ls), some (vz c23), some (vz far), some (vz p), none, none, none, none, none] [] _
          refine zz_iconst d_MO_lastEnd_335 ?_
          refine ab_istore d_MO_lastEnd_336 (Nat.le_of_ble_eq_true rfl) (Nat.le_of_ble_eq_true rfl) rfl ?_
          change ab_W _ _ _ G15 338 [some (vR 80), some (vz s), some (vz fm), some (vz n), some (vz ls), some (vz c23), some (vz far), some (vz p), none, some (vz 0), none, none, none] [] _
          refine y_MO_lastEnd_338 (m_thrown := m_thrown) (m_taped := m_taped) (m_length := m_length) (m_out := m_out) (m_wide := w11) (m_gathered := m_gathered) (m_sets := m_sets) (m_ranges := m_ranges) (m_nodes := m_nodes) (m_at := m_at) (m_flags := m_flags) (m_fault := m_fault) (m_place := m_place) (m_numbered := m_numbered) (m_depth := m_depth) (m_value := m_value) (m_isNot := m_isNot) (m_least0 := m_least0) (m_most0 := m_most0) (m_slot := m_slot) (m_work := m_work) (m_got := m_got) (m_rowMany := m_rowMany) (m_charAt := c10) (m_charWide := w11) (m_trail := m_trail) (m_isMatch := m_isMatch) (m_matchGroups := m_matchGroups) (m_allFrom := m_allFrom) (m_allBefore := m_allBefore) (m_founds := m_founds) (m_pieces := m_pieces) (m_writtenMany := m_writtenMany) (m_templateWide := m_templateWide) (m_tooMuch := m_tooMuch) (A_step := A_step) (A_next := A_next) (A_classAt := A_classAt) (A_classMany := A_classMany) (A_classLow := A_classLow) (A_classHigh := A_classHigh) (CO0 := C216) (s := s) (fm := fm) (n := n) (cl := c23) (p := p) (en := en) (far0 := far) (ls0 := ls) (G0 := G15) (k := 0) (far := far) (ls := ls) (CO := C216) (by omega) (by omega) (by omega) jsg jst jcl jch (by omega) (by omega) hq12 (by omega) (by omega) (by omega) (by omega) (Int.toNat (n - 0) + 1) h80 h136 h118 h119 h121 h122 h123 h124 (by omega) hq17 nlo_rf cgr_rf tdn_0 je (by omega) fx.rf rfl rfl (by omega) (fun G20 l221 f222 C223 hN136 hq24 hq25 hq26 hq27 hq28 hq29 hq30 hfk hlk hsk => ?_)
          · have h80 := hfk.get h80 (by decide)
            have h118 := hfk.get h118 (by decide)
            have h119 := hfk.get h119 (by decide)
            have h120 := hfk.get h120 (by decide)
            have h121 := hfk.get h121 (by decide)
            have h122 := hfk.get h122 (by decide)
            have h123 := hfk.get h123 (by decide)
            have h124 := hfk.get h124 (by decide)
            have h85 := hfk.get h85 (by decide)
            have hfr := hfr.tr hfk (by decide)
            have hlen := hlk.trans hlen
            have hsl := hsk.trans hsl
            have h136 := hN136
            change ab_W _ _ _ G20 460 [some (vR 80), some (vz s), some (vz fm), some (vz n), some (vz l221), some (vz c23), some (vz f222), some (vz p), none, none, none, none, none] [] _
            refine zz_iinc d_MO_lastEnd_460 rfl (Nat.le_of_ble_eq_true rfl) (Nat.le_of_ble_eq_true rfl) rfl ?_
            change ab_W _ _ _ G20 463 [some (vR 80), some (vz s), some (vz fm), some (vz n), some (vz l221), some (vz c23), some (vz f222), some (vz (p + 1)), none, none, none, none, none] [] _
            refine ab_goto (tgt := 66) d_MO_lastEnd_463 (by decide) ?_
            exact ih (ls := l221) (cl := c23) (far := f222) (p := (p + 1)) (CO := C223) (m_wide := w11) (m_charAt := c10) (m_charWide := w11) h80 h136 h118 h119 h120 h121 h122 h123 h124 h85 (by omega) hq25 (fcls_s jf jsg (by omega) (by omega) hq7 hq18 hq26 hq27 hq19 hq28 (by omega) (by omega)) (cb_keep jb (by omega) (by omega) hq7 hq18 hq27) hq29 hfr hlen hsl (by omega) hk0
set_option maxRecDepth 100000 in
set_option maxHeartbeats 4000000 in
theorem z_MO_lastEnd {X : ab_X} {d : Nat} {o : Nat → Nat} {G : ab_G} {m_thrown : Int} {m_taped : Int} {m_length : Int} {m_out : Int} {m_wide : Int} {m_gathered : Int} {m_sets : Int} {m_ranges : Int} {m_nodes : Int} {m_at : Int} {m_flags : Int} {m_fault : Int} {m_place : Int} {m_numbered : Int} {m_depth : Int} {m_value : Int} {m_isNot : Int} {m_least0 : Int} {m_most0 : Int} {m_slot : Int} {m_work : Int} {m_got : Int} {m_rowMany : Int} {m_charAt : Int} {m_charWide : Int} {m_trail : Int} {m_isMatch : Int} {m_matchGroups : Int} {m_allFrom : Int} {m_allBefore : Int} {m_founds : Int} {m_pieces : Int} {m_writtenMany : Int} {m_templateWide : Int} {m_tooMuch : Int} {A_subject : Int → Int} {A_stepMany : Int → Int} {A_entry : Int → Int} {A_step : Int → Int} {A_next : Int → Int} {A_more : Int → Int} {A_classAt : Int → Int} {A_classMany : Int → Int} {A_classLow : Int → Int} {A_classHigh : Int → Int} {CO : Int → Int} {s : Int} {fm : Int} (h80 : cc o G 80 280 (ab_ob 12 (mof m_thrown m_taped m_length m_out m_wide m_gathered m_sets m_ranges m_nodes m_at m_flags m_fault m_place m_numbered m_depth m_value m_isNot m_least0 m_most0 m_slot m_work m_got m_rowMany m_charAt m_charWide m_trail m_isMatch m_matchGroups m_allFrom m_allBefore m_founds m_pieces m_writtenMany m_templateWide m_tooMuch))) (h136 : cc o G 136 336 (zl 392196 CO)) (h118 : cc o G 118 318 (za 75000 A_step)) (h119 : cc o G 119 319 (za 75000 A_next)) (h120 : cc o G 120 320 (za 75000 A_more)) (h121 : cc o G 121 321 (za 75000 A_classAt)) (h122 : cc o G 122 322 (za 75000 A_classMany)) (h123 : cc o G 123 323 (za 3600 A_classLow)) (h124 : cc o G 124 324 (za 3600 A_classHigh)) (h85 : cc o G 85 285 (za 2000 A_subject)) (h117 : cc o G 117 317 (za 6 A_stepMany)) (h113 : cc o G 113 313 (za 6 A_entry)) (n18 : ab_n0 = 18) (cle : 0 ≤ m_length ∧ m_length ≤ 2000) (cs : 0 ≤ s ∧ s ≤ 5 ∧ 0 ≤ (A_stepMany s) ∧ (A_stepMany s) ≤ 12500) (jsg : sgood A_step A_next A_more A_classAt A_classMany (12500 * s) (A_stepMany s)) (jst : rgs A_step 75000 0 6) (jcl : rgs A_classLow 3600 0 1114111) (jch : rgs A_classHigh 3600 0 1114111) (jsb : rgs A_subject 2000 0 255) (cf : 0 ≤ fm ∧ fm ≤ m_length ∧ 0 ≤ (A_entry s) ∧ (A_entry s) < (A_stepMany s)) (hd : 6 ≤ d) : ab_F X d y_MO_lastEnd (.code y_MO_lastEnd b_MO_lastEnd 13 (some (.int))) [vR 80, vz s, vz fm] G (fun oc G2 => ∃ l2 : Int, ∃ f2 : Int, ∃ w2 : Int, ∃ ch2 : Int, ∃ cw2 : Int, ∃ C2 : Int → Int, oc = .returned (some (vz l2)) ∧ fx o o [280, 336] G G2 ∧ G2.length = G.length ∧ ab_slots G2 = ab_slots G ∧ cc o G2 80 280 (ab_ob 12 (mof m_thrown m_taped m_length m_out w2 m_gathered m_sets m_ranges m_nodes m_at m_flags m_fault m_place m_numbered m_depth m_value m_isNot m_least0 m_most0 m_slot m_work m_got m_rowMany ch2 cw2 m_trail m_isMatch m_matchGroups m_allFrom m_allBefore m_founds m_pieces m_writtenMany m_templateWide m_tooMuch)) ∧ cc o G2 136 336 (zl 392196 C2) ∧ (fm ≤ f2 ∧ f2 ≤ m_length ∧ -1 ≤ l2 ∧ l2 ≤ m_length) ∧ (fcls A_step A_next A_more A_classAt A_classMany A_classLow A_classHigh A_subject C2 m_length (12500 * s) (A_stepMany s) f2 l2 fm (f2 + 1)) ∧ (nbit C2 fm (A_entry s)) ∧ (0 ≤ l2 → fm ≤ l2 ∧ lend A_step A_next A_more A_classAt A_classMany A_classLow A_classHigh A_subject m_length (12500 * s) (A_stepMany s) fm (A_entry s) l2)) := by
  refine ab_F_of (by decide +kernel) (Nat.le_of_ble_eq_true rfl) ?_
  obtain ⟨Q, hQ⟩ : ∃ z : Outcome → ab_G → Prop, z = (fun oc G2 => ∃ l2 : Int, ∃ f2 : Int, ∃ w2 : Int, ∃ ch2 : Int, ∃ cw2 : Int, ∃ C2 : Int → Int, oc = .returned (some (vz l2)) ∧ fx o o [280, 336] G G2 ∧ G2.length = G.length ∧ ab_slots G2 = ab_slots G ∧ cc o G2 80 280 (ab_ob 12 (mof m_thrown m_taped m_length m_out w2 m_gathered m_sets m_ranges m_nodes m_at m_flags m_fault m_place m_numbered m_depth m_value m_isNot m_least0 m_most0 m_slot m_work m_got m_rowMany ch2 cw2 m_trail m_isMatch m_matchGroups m_allFrom m_allBefore m_founds m_pieces m_writtenMany m_templateWide m_tooMuch)) ∧ cc o G2 136 336 (zl 392196 C2) ∧ (fm ≤ f2 ∧ f2 ≤ m_length ∧ -1 ≤ l2 ∧ l2 ≤ m_length) ∧ (fcls A_step A_next A_more A_classAt A_classMany A_classLow A_classHigh A_subject C2 m_length (12500 * s) (A_stepMany s) f2 l2 fm (f2 + 1)) ∧ (nbit C2 fm (A_entry s)) ∧ (0 ≤ l2 → fm ≤ l2 ∧ lend A_step A_next A_more A_classAt A_classMany A_classLow A_classHigh A_subject m_length (12500 * s) (A_stepMany s) fm (A_entry s) l2)) := ⟨_, rfl⟩
  rw [← hQ]
  change ab_W X (ab_pl y_MO_lastEnd b_MO_lastEnd 13 (some (.int))) d G 0 [some (vR 80), some (vz s), some (vz fm), none, none, none, none, none, none, none, none, none, none] [] Q
  have hfr : fx o o [280, 336] G G := fx.rf
  have hlen : G.length = G.length := rfl
  have hsl : ab_slots G = ab_slots G := rfl
  refine ab_aload_n d_MO_lastEnd_0 rfl ?_
  refine ab_getf (fs := mof m_thrown m_taped m_length m_out m_wide m_gathered m_sets m_ranges m_nodes m_at m_flags m_fault m_place m_numbered m_depth m_value m_isNot m_least0 m_most0 m_slot m_work m_got m_rowMany m_charAt m_charWide m_trail m_isMatch m_matchGroups m_allFrom m_allBefore m_founds m_pieces m_writtenMany m_templateWide m_tooMuch) f_MO_124 d_MO_lastEnd_1 h80.2.2 rfl ?_
  refine ab_iload_n d_MO_lastEnd_4 rfl ?_
  refine zz_iald d_MO_lastEnd_5 h117 (by omega) ?_
  refine ab_istore_n d_MO_lastEnd_6 (Nat.le_of_ble_eq_true rfl) (Nat.le_of_ble_eq_true rfl) rfl ?_
  change ab_W _ _ _ G 7 [some (vR 80), some (vz s), some (vz fm), some (vz (A_stepMany s)), none, none, none, none, none, none, none, none, none] [] _
  refine zz_sipush d_MO_lastEnd_7 (by decide) ?_
  refine ab_iload_n d_MO_lastEnd_10 rfl ?_
  refine zz_imul d_MO_lastEnd_11 ?_
  refine ab_istore d_MO_lastEnd_12 (Nat.le_of_ble_eq_true rfl) (Nat.le_of_ble_eq_true rfl) rfl ?_
  change ab_W _ _ _ G 14 [some (vR 80), some (vz s), some (vz fm), some (vz (A_stepMany s)), some (vz (196 * fm)), none, none, none, none, none, none, none, none] [] _
  refine y_MO_lastEnd_14 (m_thrown := m_thrown) (m_taped := m_taped) (m_length := m_length) (m_out := m_out) (m_wide := m_wide) (m_gathered := m_gathered) (m_sets := m_sets) (m_ranges := m_ranges) (m_nodes := m_nodes) (m_at := m_at) (m_flags := m_flags) (m_fault := m_fault) (m_place := m_place) (m_numbered := m_numbered) (m_depth := m_depth) (m_value := m_value) (m_isNot := m_isNot) (m_least0 := m_least0) (m_most0 := m_most0) (m_slot := m_slot) (m_work := m_work) (m_got := m_got) (m_rowMany := m_rowMany) (m_charAt := m_charAt) (m_charWide := m_charWide) (m_trail := m_trail) (m_isMatch := m_isMatch) (m_matchGroups := m_matchGroups) (m_allFrom := m_allFrom) (m_allBefore := m_allBefore) (m_founds := m_founds) (m_pieces := m_pieces) (m_writtenMany := m_writtenMany) (m_templateWide := m_templateWide) (m_tooMuch := m_tooMuch) (s := s) (fm := fm) (n := (A_stepMany s)) (G0 := G) (i_ := (196 * fm)) (u := 0) (CO := CO) (by omega) (by omega) (by omega) (Int.toNat (196 - 0) + 1) h80 h136 (by omega) (by omega) nclr_0 fx.rf rfl rfl (by omega) (fun G1 C22 hN136 hq3 hfk hlk hsk => ?_)
  · have h80 := hfk.get h80 (by decide)
    have h118 := hfk.get h118 (by decide)
    have h119 := hfk.get h119 (by decide)
    have h120 := hfk.get h120 (by decide)
    have h121 := hfk.get h121 (by decide)
    have h122 := hfk.get h122 (by decide)
    have h123 := hfk.get h123 (by decide)
    have h124 := hfk.get h124 (by decide)
    have h85 := hfk.get h85 (by decide)
    have h117 := hfk.get h117 (by decide)
    have h113 := hfk.get h113 (by decide)
    have hfr := hfr.tr hfk (by decide)
    have hlen := hlk.trans hlen
    have hsl := hsk.trans hsl
    have h136 := hN136
    change ab_W _ _ _ G1 40 [some (vR 80), some (vz s), some (vz fm), some (vz (A_stepMany s)), none, none, none, none, none, none, none, none, none] [] _
    refine ab_aload_n d_MO_lastEnd_40 rfl ?_
    refine ab_getf (fs := mof m_thrown m_taped m_length m_out m_wide m_gathered m_sets m_ranges m_nodes m_at m_flags m_fault m_place m_numbered m_depth m_value m_isNot m_least0 m_most0 m_slot m_work m_got m_rowMany m_charAt m_charWide m_trail m_isMatch m_matchGroups m_allFrom m_allBefore m_founds m_pieces m_writtenMany m_templateWide m_tooMuch) f_MO_184 d_MO_lastEnd_41 h80.2.2 rfl ?_
    refine ab_iload_n d_MO_lastEnd_44 rfl ?_
    refine ab_aload_n d_MO_lastEnd_45 rfl ?_
    refine ab_getf (fs := mof m_thrown m_taped m_length m_out m_wide m_gathered m_sets m_ranges m_nodes m_at m_flags m_fault m_place m_numbered m_depth m_value m_isNot m_least0 m_most0 m_slot m_work m_got m_rowMany m_charAt m_charWide m_trail m_isMatch m_matchGroups m_allFrom m_allBefore m_founds m_pieces m_writtenMany m_templateWide m_tooMuch) f_MO_112 d_MO_lastEnd_46 h80.2.2 rfl ?_
    refine ab_iload_n d_MO_lastEnd_49 rfl ?_
    refine zz_iald d_MO_lastEnd_50 h113 (by omega) ?_
    refine ab_callS (d' := d - 1) (as := [vR 136, vz fm, vz (A_entry s)]) (st := []) (z_MO_mark (o := o) (a := 136) (l := 336) (A := C22) (p := fm) (k := (A_entry s)) h136 (by omega) (by have h18 : ab_n0 = 18 := rfl; omega)) (fun oc G2 h => by rcases h with ⟨_, h, _⟩ <;> exact ⟨_, h⟩) (by omega) m_MO_mark ml_MO_536 st_MO_mark (Nat.le_of_ble_eq_true rfl) d_MO_lastEnd_51 rfl ?_
    intro v G4 hq
    rcases hq with ⟨B5, hv, hfk, hlk, hsk, hN136, hq6⟩
    cases hv
    have h80 := hfk.get h80 (by decide)
    have h118 := hfk.get h118 (by decide)
    have h119 := hfk.get h119 (by decide)
    have h120 := hfk.get h120 (by decide)
    have h121 := hfk.get h121 (by decide)
    have h122 := hfk.get h122 (by decide)
    have h123 := hfk.get h123 (by decide)
    have h124 := hfk.get h124 (by decide)
    have h85 := hfk.get h85 (by decide)
    have h117 := hfk.get h117 (by decide)
    have h113 := hfk.get h113 (by decide)
    have hfr := hfr.tr hfk (by decide)
    have hlen := hlk.trans hlen
    have hsl := hsk.trans hsl
    have h136 := hN136
    change ab_W _ _ _ G4 54 [some (vR 80), some (vz s), some (vz fm), some (vz (A_stepMany s)), none, none, none, none, none, none, none, none, none] [] _
    refine zz_iconst d_MO_lastEnd_54 ?_
    refine ab_istore d_MO_lastEnd_55 (Nat.le_of_ble_eq_true rfl) (Nat.le_of_ble_eq_true rfl) rfl ?_
    change ab_W _ _ _ G4 57 [some (vR 80), some (vz s), some (vz fm), some (vz (A_stepMany s)), some (vz (-1)), none, none, none, none, none, none, none, none] [] _
    refine ab_iload_n d_MO_lastEnd_57 rfl ?_
    refine ab_istore d_MO_lastEnd_58 (Nat.le_of_ble_eq_true rfl) (Nat.le_of_ble_eq_true rfl) rfl ?_
    change ab_W _ _ _ G4 60 [some (vR 80), some (vz s), some (vz fm), some (vz (A_stepMany s)), some (vz (-1)), some (vz fm), none, none, none, none, none, none, none] [] _
    refine ab_iload_n d_MO_lastEnd_60 rfl ?_
    refine ab_istore d_MO_lastEnd_61 (Nat.le_of_ble_eq_true rfl) (Nat.le_of_ble_eq_true rfl) rfl ?_
    change ab_W _ _ _ G4 63 [some (vR 80), some (vz s), some (vz fm), some (vz (A_stepMany s)), some (vz (-1)), some (vz fm), some (vz fm), none, none, none, none, none, none] [] _
    refine ab_iload_n d_MO_lastEnd_63 rfl ?_
    refine ab_istore d_MO_lastEnd_64 (Nat.le_of_ble_eq_true rfl) (Nat.le_of_ble_eq_true rfl) rfl ?_
    change ab_W _ _ _ G4 66 [some (vR 80), some (vz s), some (vz fm), some (vz (A_stepMany s)), some (vz (-1)), some (vz fm), some (vz fm), some (vz fm), none, none, none, none, none] [] _
    refine y_MO_lastEnd_66 (m_thrown := m_thrown) (m_taped := m_taped) (m_length := m_length) (m_out := m_out) (m_gathered := m_gathered) (m_sets := m_sets) (m_ranges := m_ranges) (m_nodes := m_nodes) (m_at := m_at) (m_flags := m_flags) (m_fault := m_fault) (m_place := m_place) (m_numbered := m_numbered) (m_depth := m_depth) (m_value := m_value) (m_isNot := m_isNot) (m_least0 := m_least0) (m_most0 := m_most0) (m_slot := m_slot) (m_work := m_work) (m_got := m_got) (m_rowMany := m_rowMany) (m_trail := m_trail) (m_isMatch := m_isMatch) (m_matchGroups := m_matchGroups) (m_allFrom := m_allFrom) (m_allBefore := m_allBefore) (m_founds := m_founds) (m_pieces := m_pieces) (m_writtenMany := m_writtenMany) (m_templateWide := m_templateWide) (m_tooMuch := m_tooMuch) (A_subject := A_subject) (A_step := A_step) (A_next := A_next) (A_more := A_more) (A_classAt := A_classAt) (A_classMany := A_classMany) (A_classLow := A_classLow) (A_classHigh := A_classHigh) (s := s) (fm := fm) (n := (A_stepMany s)) (en := (A_entry s)) (G0 := G4) (ls := (-1)) (cl := fm) (far := fm) (p := fm) (CO := B5) (m_wide := m_wide) (m_charAt := m_charAt) (m_charWide := m_charWide) (by omega) (by omega) (by omega) jsg jst jcl jch jsb (by omega) (by omega) (Int.toNat (m_length + 1 - fm) + 1) h80 h136 h118 h119 h120 h121 h122 h123 h124 h85 (by omega) (cld_mark (cld_0 hq3) (by omega) lead_0 hq6) fcls_0 ((hq6 fm (A_entry s) (by omega) (by omega)).mpr (Or.inr ⟨rfl, rfl⟩)) (fun h => absurd h (by decide)) fx.rf rfl rfl (by omega) (fun G7 l28 c29 f210 w211 ch212 cw213 C214 hN80 hN136 hq15 hq16 hq17 hq18 hfk hlk hsk => ?_)
    · have h118 := hfk.get h118 (by decide)
      have h119 := hfk.get h119 (by decide)
      have h120 := hfk.get h120 (by decide)
      have h121 := hfk.get h121 (by decide)
      have h122 := hfk.get h122 (by decide)
      have h123 := hfk.get h123 (by decide)
      have h124 := hfk.get h124 (by decide)
      have h85 := hfk.get h85 (by decide)
      have h117 := hfk.get h117 (by decide)
      have h113 := hfk.get h113 (by decide)
      have hfr := hfr.tr hfk (by decide)
      have hlen := hlk.trans hlen
      have hsl := hsk.trans hsl
      have h80 := hN80
      have h136 := hN136
      change ab_W _ _ _ G7 466 [none, none, none, none, some (vz l28), none, none, none, none, none, none, none, none] [] _
      refine ab_iload d_MO_lastEnd_466 rfl ?_
      refine zz_iret rfl d_MO_lastEnd_468 ?_
      rw [hQ]; exact ⟨_, f210, _, _, _, _, rfl, hfr, hlen, hsl, h80, h136, (by omega), (by exact hq16), (by exact hq17), (by exact hq18)⟩
