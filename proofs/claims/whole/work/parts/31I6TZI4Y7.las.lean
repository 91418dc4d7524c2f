set_option maxRecDepth 100000 in
set_option maxHeartbeats 4000000 in
theorem y_MO_lastEnd_338 {X : ab_X} {d : Nat} {Q : Outcome → ab_G → Prop} {o : Nat → Nat} {G0 : ab_G} {m_thrown : Int} {m_taped : Int} {m_length : Int} {m_out : Int} {m_wide : Int} {m_gathered : Int} {m_sets : Int} {m_ranges : Int} {m_nodes : Int} {m_at : Int} {m_flags : Int} {m_fault : Int} {m_place : Int} {m_numbered : Int} {m_depth : Int} {m_value : Int} {m_isNot : Int} {m_least0 : Int} {m_most0 : Int} {m_slot : Int} {m_work : Int} {m_got : Int} {m_rowMany : Int} {m_charAt : Int} {m_charWide : Int} {m_trail : Int} {m_isMatch : Int} {m_matchGroups : Int} {m_allFrom : Int} {m_allBefore : Int} {m_founds : Int} {m_pieces : Int} {m_writtenMany : Int} {m_templateWide : Int} {m_tooMuch : Int} {A_subject : Int → Int} {A_step : Int → Int} {A_next : Int → Int} {A_more : Int → Int} {A_classAt : Int → Int} {A_classMany : Int → Int} {A_classLow : Int → Int} {A_classHigh : Int → Int} {CO0 : Int → Int} {s : Int} {fm : Int} {n : Int} {cl : Int} {p : Int} {en : Int} {far0 : Int} {ls0 : Int} (n18 : ab_n0 = 18) (cle : 0 ≤ m_length ∧ m_length ≤ 2000) (cs : 0 ≤ s ∧ s ≤ 5 ∧ 0 ≤ n ∧ n ≤ 12500) (jsg : sgood A_step A_next A_more A_classAt A_classMany (12500 * s) n) (jst : rgs A_step 75000 0 6) (jcl : rgs A_classLow 3600 0 1114111) (jch : rgs A_classHigh 3600 0 1114111) (cch : -1 ≤ m_charAt ∧ m_charAt ≤ 1114111 ∧ 1 ≤ m_charWide ∧ m_charWide ≤ 4) (clk : 0 ≤ m_charAt → p + m_charWide ≤ m_length) (hmc : mchr A_subject m_length p m_charAt m_charWide) (cp : 0 ≤ fm ∧ fm ≤ p ∧ p ≤ m_length ∧ p ≤ cl) (hcl : cl = m_length ∨ p + 4 ≤ cl) (hc0 : cl ≤ m_length) (hd : 3 ≤ d) : ∀ (mz : Nat) {G : ab_G} {k : Int} {far : Int} {ls : Int} {CO : Int → Int}, (cc o G 80 280 (ab_ob 12 (mof m_thrown m_taped m_length m_out m_wide m_gathered m_sets m_ranges m_nodes m_at m_flags m_fault m_place m_numbered m_depth m_value m_isNot m_least0 m_most0 m_slot m_work m_got m_rowMany m_charAt m_charWide m_trail m_isMatch m_matchGroups m_allFrom m_allBefore m_founds m_pieces m_writtenMany m_templateWide m_tooMuch))) → (cc o G 136 336 (zl 392196 CO)) → (cc o G 118 318 (za 75000 A_step)) → (cc o G 119 319 (za 75000 A_next)) → (cc o G 121 321 (za 75000 A_classAt)) → (cc o G 122 322 (za 75000 A_classMany)) → (cc o G 123 323 (za 3600 A_classLow)) → (cc o G 124 324 (za 3600 A_classHigh)) → (0 ≤ k ∧ k ≤ n ∧ p ≤ far ∧ far ≤ cl ∧ far0 ≤ far ∧ -1 ≤ ls ∧ ls ≤ p) → (cld A_step A_next A_more A_classAt A_classMany A_classLow A_classHigh A_subject CO m_length (12500 * s) n fm en cl) → (nlo CO0 CO (p + 1)) → (cgr CO0 CO) → (tdn A_step A_next A_classAt A_classMany A_classLow A_classHigh A_subject CO0 CO m_length (12500 * s) far ls p k) → (0 ≤ ls → fm ≤ ls ∧ lend A_step A_next A_more A_classAt A_classMany A_classLow A_classHigh A_subject m_length (12500 * s) n fm en ls) → (ls0 ≤ ls) → (fx o o [336] G0 G) → (G.length = G0.length) → (ab_slots G = ab_slots G0) → (Int.toNat (n - k) < mz) → (∀ (G2 : ab_G) (l2 : Int) (f2 : Int) (C2 : Int → Int), (cc o G2 136 336 (zl 392196 C2)) → (p ≤ f2 ∧ f2 ≤ cl ∧ far0 ≤ f2 ∧ -1 ≤ l2 ∧ l2 ≤ p) → (cld A_step A_next A_more A_classAt A_classMany A_classLow A_classHigh A_subject C2 m_length (12500 * s) n fm en cl) → (nlo CO0 C2 (p + 1)) → (cgr CO0 C2) → (tdn A_step A_next A_classAt A_classMany A_classLow A_classHigh A_subject CO0 C2 m_length (12500 * s) f2 l2 p n) → (0 ≤ l2 → fm ≤ l2 ∧ lend A_step A_next A_more A_classAt A_classMany A_classLow A_classHigh A_subject m_length (12500 * s) n fm en l2) → (ls0 ≤ l2) → (fx o o [336] G0 G2) → (G2.length = G0.length) → (ab_slots G2 = ab_slots G0) → ab_W X (ab_pl y_MO_lastEnd b_MO_lastEnd 13 (some (.int))) d G2 460 [some (vR 80), some (vz s), some (vz fm), some (vz n), some (vz l2), some (vz cl), some (vz f2), some (vz p), none, none, none, none, none] [] Q) → ab_W X (ab_pl y_MO_lastEnd b_MO_lastEnd 13 (some (.int))) d G 338 [some (vR 80), some (vz s), some (vz fm), some (vz n), some (vz ls), some (vz cl), some (vz far), some (vz p), none, some (vz k), none, none, none] [] Q := by
  intro mz
  induction mz with
  | zero => intro G k far ls CO h80 h136 h118 h119 h121 h122 h123 h124 ci jl jlo jg jt je jl0 hfr hlen hsl hm hk0; exact absurd hm (Nat.not_lt_zero _)
  | succ mz ih =>
    intro G k far ls CO h80 h136 h118 h119 h121 h122 h123 h124 ci jl jlo jg jt je jl0 hfr hlen hsl hm hk0
    refine ab_iload d_MO_lastEnd_338 rfl ?_
    refine ab_iload_n d_MO_lastEnd_340 rfl ?_
    refine zz_icmp_ge (tgt := 460) d_MO_lastEnd_341 (by decide) (by omega) (by omega) (fun c1 => ?_) (fun c1 => ?_)
    · refine ab_less (L' := [some (vR 80), some (vz s), some (vz fm), some (vz n), some (vz ls), some (vz cl), some (vz far), some (vz p), none, none, none, none, none]) (fun i v h => by rcases i with _ | _ | _ | _ | _ | _ | _ | _ | _ | _ | _ | _ | _ | i <;> first | exact h | (simp at h)) ?_
      exact hk0 _ _ _ _ h136 (by omega) (by exact jl) (by exact jlo) (by exact jg) (by exact (show k = n by omega) ▸ jt) (by exact je) (by omega) hfr hlen hsl
    · refine ab_aload_n d_MO_lastEnd_344 rfl ?_
      refine ab_getf (fs := mof m_thrown m_taped m_length m_out m_wide m_gathered m_sets m_ranges m_nodes m_at m_flags m_fault m_place m_numbered m_depth m_value m_isNot m_least0 m_most0 m_slot m_work m_got m_rowMany m_charAt m_charWide m_trail m_isMatch m_matchGroups m_allFrom m_allBefore m_founds m_pieces m_writtenMany m_templateWide m_tooMuch) f_MO_184 d_MO_lastEnd_345 h80.2.2 rfl ?_
      refine ab_iload d_MO_lastEnd_348 rfl ?_
      refine ab_iload d_MO_lastEnd_350 rfl ?_
      refine ab_callS (d' := d - 1) (as := [vR 136, vz p, vz k]) (st := []) (z_MO_bit (o := o) (a := 136) (l := 336) (A := CO) (p := p) (k := k) h136 (by omega)) (fun oc G2 h => by rcases h with ⟨h, _⟩ | ⟨h, _⟩ <;> exact ⟨_, h⟩) (by omega) m_MO_bit ml_MO_528 st_MO_bit (Nat.le_of_ble_eq_true rfl) d_MO_lastEnd_352 rfl ?_
      intro v G2 hq
      rcases hq with ⟨hv, hGe, hq3⟩ | ⟨hv, hGe, hq4⟩
      · cases hv
        rw [hGe]
        change ab_W _ _ _ G 355 [some (vR 80), some (vz s), some (vz fm), some (vz n), some (vz ls), some (vz cl), some (vz far), some (vz p), none, some (vz k), none, none, none] [vz 1] _
        refine zz_if_ne (tgt := 361) d_MO_lastEnd_355 (by decide) (by decide) (fun c5 => ?_) (fun c5 => absurd c5 (by decide))
        have hsg_ := jsg k (by omega) (by omega)
        refine ab_aload_n d_MO_lastEnd_361 rfl ?_
        refine zz_sipush d_MO_lastEnd_362 (by decide) ?_
        refine ab_iload_n d_MO_lastEnd_365 rfl ?_
        refine zz_imul d_MO_lastEnd_366 ?_
        refine ab_iload d_MO_lastEnd_367 rfl ?_
        refine zz_iadd d_MO_lastEnd_369 ?_
        refine ab_iload d_MO_lastEnd_370 rfl ?_
        refine ab_callV (d' := d - 1) (as := [vz ((12500 * s) + k), vz p]) (st := []) (r := _) (z_MO_taken (o := o) (m_thrown := m_thrown) (m_taped := m_taped) (m_length := m_length) (m_out := m_out) (m_wide := m_wide) (m_gathered := m_gathered) (m_sets := m_sets) (m_ranges := m_ranges) (m_nodes := m_nodes) (m_at := m_at) (m_flags := m_flags) (m_fault := m_fault) (m_place := m_place) (m_numbered := m_numbered) (m_depth := m_depth) (m_value := m_value) (m_isNot := m_isNot) (m_least0 := m_least0) (m_most0 := m_most0) (m_slot := m_slot) (m_work := m_work) (m_got := m_got) (m_rowMany := m_rowMany) (m_charAt := m_charAt) (m_charWide := m_charWide) (m_trail := m_trail) (m_isMatch := m_isMatch) (m_matchGroups := m_matchGroups) (m_allFrom := m_allFrom) (m_allBefore := m_allBefore) (m_founds := m_founds) (m_pieces := m_pieces) (m_writtenMany := m_writtenMany) (m_templateWide := m_templateWide) (m_tooMuch := m_tooMuch) (A_step := A_step) (A_classAt := A_classAt) (A_classMany := A_classMany) (A_classLow := A_classLow) (A_classHigh := A_classHigh) (k := ((12500 * s) + k)) (p := p) h80 h118 h121 h122 h123 h124 (by omega) (by omega) jst jcl jch (jsg k (by omega) (by omega)).2.2.2.2.2 (by omega) (by omega) (by omega)) (fun oc G2 h => by rcases h with ⟨_, h, _⟩ <;> exact ⟨_, h⟩) (by omega) m_MO_taken ml_MO_525 im_MO_taken se_MO_taken c_MO h80.2.2 (Nat.le_of_ble_eq_true rfl) d_MO_lastEnd_372 rfl ?_
        intro v G6 hq
        rcases hq with ⟨v7, hv, hfk, hlk, hsk, hq8, hq9, hq10⟩
        cases hv
        have h80 := hfk.get h80 (by decide)
        have h136 := hfk.get h136 (by decide)
        have h118 := hfk.get h118 (by decide)
        have h119 := hfk.get h119 (by decide)
        have h121 := hfk.get h121 (by decide)
        have h122 := hfk.get h122 (by decide)
        have h123 := hfk.get h123 (by decide)
        have h124 := hfk.get h124 (by decide)
        have hfr := hfr.tr hfk (by decide)
        have hlen := hlk.trans hlen
        have hsl := hsk.trans hsl
        change ab_W _ _ _ G6 375 [some (vR 80), some (vz s), some (vz fm), some (vz n), some (vz ls), some (vz cl), some (vz far), some (vz p), none, some (vz k), none, none, none] [vz v7] _
        refine ab_istore d_MO_lastEnd_375 (Nat.le_of_ble_eq_true rfl) (Nat.le_of_ble_eq_true rfl) rfl ?_
        change ab_W _ _ _ G6 377 [some (vR 80), some (vz s), some (vz fm), some (vz n), some (vz ls), some (vz cl), some (vz far), some (vz p), none, some (vz k), some (vz v7), none, none] [] _
        refine ab_iload d_MO_lastEnd_377 rfl ?_
        refine zz_if_le (tgt := 407) d_MO_lastEnd_379 (by decide) (by omega) (fun c11 => ?_) (fun c11 => ?_)
        · refine ab_iload d_MO_lastEnd_407 rfl ?_
          refine zz_if_le (tgt := 430) d_MO_lastEnd_409 (by decide) (by omega) (fun c12 => ?_) (fun c12 => absurd c12 (by omega))
          refine ab_iload d_MO_lastEnd_430 rfl ?_
          refine ab_istore d_MO_lastEnd_432 (Nat.le_of_ble_eq_true rfl) (Nat.le_of_ble_eq_true rfl) rfl ?_
          change ab_W _ _ _ G6 434 [some (vR 80), some (vz s), some (vz fm), some (vz n), some (vz ls), some (vz cl), some (vz far), some (vz p), none, some (vz k), some (vz v7), none, none] [] _
          refine ab_aload_n d_MO_lastEnd_434 rfl ?_
          refine ab_getf (fs := mof m_thrown m_taped m_length m_out m_wide m_gathered m_sets m_ranges m_nodes m_at m_flags m_fault m_place m_numbered m_depth m_value m_isNot m_least0 m_most0 m_slot m_work m_got m_rowMany m_charAt m_charWide m_trail m_isMatch m_matchGroups m_allFrom m_allBefore m_founds m_pieces m_writtenMany m_templateWide m_tooMuch) f_MO_128 d_MO_lastEnd_435 h80.2.2 rfl ?_
          refine zz_sipush d_MO_lastEnd_438 (by decide) ?_
          refine ab_iload_n d_MO_lastEnd_441 rfl ?_
          refine zz_imul d_MO_lastEnd_442 ?_
          refine ab_iload d_MO_lastEnd_443 rfl ?_
          refine zz_iadd d_MO_lastEnd_445 ?_
          refine zz_iald d_MO_lastEnd_446 h118 (by omega) ?_
          have hq13 := jst ((12500 * s) + k) (by omega) (by omega)
          refine zz_if_ne (tgt := 454) d_MO_lastEnd_447 (by decide) (by omega) (fun c14 => ?_) (fun c14 => ?_)
          · refine zz_iinc d_MO_lastEnd_454 rfl (Nat.le_of_ble_eq_true rfl) (Nat.le_of_ble_eq_true rfl) rfl ?_
            change ab_W _ _ _ G6 457 [some (vR 80), some (vz s), some (vz fm), some (vz n), some (vz ls), some (vz cl), some (vz far), some (vz p), none, some (vz (k + 1)), some (vz v7), none, none] [] _
            refine ab_goto (tgt := 338) d_MO_lastEnd_457 (by decide) ?_
            refine ab_less (L' := [some (vR 80), some (vz s), some (vz fm), some (vz n), some (vz ls), some (vz cl), some (vz far), some (vz p), none, some (vz (k + 1)), none, none, none]) (fun i v h => by rcases i with _ | _ | _ | _ | _ | _ | _ | _ | _ | _ | _ | _ | _ | i <;> first | exact h | (simp at h)) ?_
            exact ih (k := (k + 1)) (far := far) (ls := ls) (CO := CO) h80 h136 h118 h119 h121 h122 h123 h124 (by omega) jl jlo jg (tdn_s jt jsg (by omega) (by omega) cgr_rf (by omega) (by omega) (fun _ => ⟨tk_once hmc hq8 (fun z => absurd z (by omega)), fun t => by omega⟩)) je (by omega) hfr hlen hsl (by omega) hk0
          · refine ab_iload d_MO_lastEnd_450 rfl ?_
            refine ab_istore d_MO_lastEnd_452 (Nat.le_of_ble_eq_true rfl) (Nat.le_of_ble_eq_true rfl) rfl ?_
            change ab_W _ _ _ G6 454 [some (vR 80), some (vz s), some (vz fm), some (vz n), some (vz p), some (vz cl), some (vz far), some (vz p), none, some (vz k), some (vz v7), none, none] [] _
            refine zz_iinc d_MO_lastEnd_454 rfl (Nat.le_of_ble_eq_true rfl) (Nat.le_of_ble_eq_true rfl) rfl ?_
            change ab_W _ _ _ G6 457 [some (vR 80), some (vz s), some (vz fm), some (vz n), some (vz p), some (vz cl), some (vz far), some (vz p), none, some (vz (k + 1)), some (vz v7), none, none] [] _
            refine ab_goto (tgt := 338) d_MO_lastEnd_457 (by decide) ?_
            refine ab_less (L' := [some (vR 80), some (vz s), some (vz fm), some (vz n), some (vz p), some (vz cl), some (vz far), some (vz p), none, some (vz (k + 1)), none, none, none]) (fun i v h => by rcases i with _ | _ | _ | _ | _ | _ | _ | _ | _ | _ | _ | _ | _ | i <;> first | exact h | (simp at h)) ?_
            exact ih (k := (k + 1)) (far := far) (ls := p) (CO := CO) h80 h136 h118 h119 h121 h122 h123 h124 (by omega) jl jlo jg (tdn_s jt jsg (by omega) (by omega) cgr_rf (by omega) (by omega) (fun _ => ⟨tk_once hmc hq8 (fun z => absurd z (by omega)), fun t => by omega⟩)) (fun _ => ⟨by omega, k, by omega, by omega, (jl p k (by omega) (by omega) (by omega) (by omega) hq3).2⟩) (by omega) hfr hlen hsl (by omega) hk0
        · have hv_ := hq10 (by omega)
          have hnx_ := hsg_.2.1 (by omega) (by omega)
          refine ab_aload_n d_MO_lastEnd_382 rfl ?_
          refine ab_getf (fs := mof m_thrown m_taped m_length m_out m_wide m_gathered m_sets m_ranges m_nodes m_at m_flags m_fault m_place m_numbered m_depth m_value m_isNot m_least0 m_most0 m_slot m_work m_got m_rowMany m_charAt m_charWide m_trail m_isMatch m_matchGroups m_allFrom m_allBefore m_founds m_pieces m_writtenMany m_templateWide m_tooMuch) f_MO_184 d_MO_lastEnd_383 h80.2.2 rfl ?_
          refine ab_iload d_MO_lastEnd_386 rfl ?_
          refine ab_iload d_MO_lastEnd_388 rfl ?_
          refine zz_iadd d_MO_lastEnd_390 ?_
          refine ab_aload_n d_MO_lastEnd_391 rfl ?_
          refine ab_getf (fs := mof m_thrown m_taped m_length m_out m_wide m_gathered m_sets m_ranges m_nodes m_at m_flags m_fault m_place m_numbered m_depth m_value m_isNot m_least0 m_most0 m_slot m_work m_got m_rowMany m_charAt m_charWide m_trail m_isMatch m_matchGroups m_allFrom m_allBefore m_founds m_pieces m_writtenMany m_templateWide m_tooMuch) f_MO_131 d_MO_lastEnd_392 h80.2.2 rfl ?_
          refine zz_sipush d_MO_lastEnd_395 (by decide) ?_
          refine ab_iload_n d_MO_lastEnd_398 rfl ?_
          refine zz_imul d_MO_lastEnd_399 ?_
          refine ab_iload d_MO_lastEnd_400 rfl ?_
          refine zz_iadd d_MO_lastEnd_402 ?_
          refine zz_iald d_MO_lastEnd_403 h119 (by omega) ?_
          refine ab_callS (d' := d - 1) (as := [vR 136, vz (p + v7), vz (A_next ((12500 * s) + k))]) (st := []) (z_MO_mark (o := o) (a := 136) (l := 336) (A := CO) (p := (p + v7)) (k := (A_next ((12500 * s) + k))) h136 (by omega) (by have h18 : ab_n0 = 18 := rfl; omega)) (fun oc G2 h => by rcases h with ⟨_, h, _⟩ <;> exact ⟨_, h⟩) (by omega) m_MO_mark ml_MO_536 st_MO_mark (Nat.le_of_ble_eq_true rfl) d_MO_lastEnd_404 rfl ?_
          intro v G15 hq
          rcases hq with ⟨B16, hv, hfk, hlk, hsk, hN136, hq17⟩
          cases hv
          have h80 := hfk.get h80 (by decide)
          have h118 := hfk.get h118 (by decide)
          have h119 := hfk.get h119 (by decide)
          have h121 := hfk.get h121 (by decide)
          have h122 := hfk.get h122 (by decide)
          have h123 := hfk.get h123 (by decide)
          have h124 := hfk.get h124 (by decide)
          have hfr := hfr.tr hfk (by decide)
          have hlen := hlk.trans hlen
          have hsl := hsk.trans hsl
          have h136 := hN136
          change ab_W _ _ _ G15 407 [some (vR 80), some (vz s), some (vz fm), some (vz n), some (vz ls), some (vz cl), some (vz far), some (vz p), none, some (vz k), some (vz v7), none, none] [] _
          refine ab_iload d_MO_lastEnd_407 rfl ?_
          refine zz_if_le (tgt := 430) d_MO_lastEnd_409 (by decide) (by omega) (fun c18 => absurd c18 (by omega)) (fun c18 => ?_)
          refine ab_iload d_MO_lastEnd_412 rfl ?_
          refine ab_iload d_MO_lastEnd_414 rfl ?_
          refine zz_iadd d_MO_lastEnd_416 ?_
          refine ab_iload d_MO_lastEnd_417 rfl ?_
          refine zz_icmp_le (tgt := 430) d_MO_lastEnd_419 (by decide) (by omega) (by omega) (fun c19 => ?_) (fun c19 => ?_)
          · refine ab_iload d_MO_lastEnd_430 rfl ?_
            refine ab_istore d_MO_lastEnd_432 (Nat.le_of_ble_eq_true rfl) (Nat.le_of_ble_eq_true rfl) rfl ?_
            change ab_W _ _ _ G15 434 [some (vR 80), some (vz s), some (vz fm), some (vz n), some (vz ls), some (vz cl), some (vz far), some (vz p), none, some (vz k), some (vz v7), none, none] [] _
            refine ab_aload_n d_MO_lastEnd_434 rfl ?_
            refine ab_getf (fs := mof m_thrown m_taped m_length m_out m_wide m_gathered m_sets m_ranges m_nodes m_at m_flags m_fault m_place m_numbered m_depth m_value m_isNot m_least0 m_most0 m_slot m_work m_got m_rowMany m_charAt m_charWide m_trail m_isMatch m_matchGroups m_allFrom m_allBefore m_founds m_pieces m_writtenMany m_templateWide m_tooMuch) f_MO_128 d_MO_lastEnd_435 h80.2.2 rfl ?_
            refine zz_sipush d_MO_lastEnd_438 (by decide) ?_
            refine ab_iload_n d_MO_lastEnd_441 rfl ?_
            refine zz_imul d_MO_lastEnd_442 ?_
            refine ab_iload d_MO_lastEnd_443 rfl ?_
            refine zz_iadd d_MO_lastEnd_445 ?_
            refine zz_iald d_MO_lastEnd_446 h118 (by omega) ?_
            have hq20 := jst ((12500 * s) + k) (by omega) (by omega)
            refine zz_if_ne (tgt := 454) d_MO_lastEnd_447 (by decide) (by omega) (fun c21 => ?_) (fun c21 => absurd c21 (by omega))
            refine zz_iinc d_MO_lastEnd_454 rfl (Nat.le_of_ble_eq_true rfl) (Nat.le_of_ble_eq_true rfl) rfl ?_
            change ab_W _ _ _ G15 457 [some (vR 80), some (vz s), some (vz fm), some (vz n), some (vz ls), some (vz cl), some (vz far), some (vz p), none, some (vz (k + 1)), some (vz v7), none, none] [] _
            refine ab_goto (tgt := 338) d_MO_lastEnd_457 (by decide) ?_
            refine ab_less (L' := [some (vR 80), some (vz s), some (vz fm), some (vz n), some (vz ls), some (vz cl), some (vz far), some (vz p), none, some (vz (k + 1)), none, none, none]) (fun i v h => by rcases i with _ | _ | _ | _ | _ | _ | _ | _ | _ | _ | _ | _ | _ | i <;> first | exact h | (simp at h)) ?_
            exact ih (k := (k + 1)) (far := far) (ls := ls) (CO := B16) h80 h136 h118 h119 h121 h122 h123 h124 (by omega) (cld_mark jl (by omega) (lead_take (jl p k (by omega) (by omega) (by omega) (by omega) hq3).2 (by omega) (by omega) hmc hq8 (by omega)) hq17) (nlo_mark jlo (by omega) hq17) (cgr_mark jg hq17) (tdn_s jt jsg (by omega) (by omega) (cgr_mark cgr_rf hq17) (by omega) (by omega) (fun _ => ⟨tk_once hmc hq8 (fun z => ⟨by omega, (hq17 _ _ (by omega) (by omega)).mpr (Or.inr ⟨rfl, rfl⟩)⟩), fun t => by omega⟩)) je (by omega) hfr hlen hsl (by omega) hk0
          · refine ab_iload d_MO_lastEnd_422 rfl ?_
            refine ab_iload d_MO_lastEnd_424 rfl ?_
            refine zz_iadd d_MO_lastEnd_426 ?_
            refine ab_goto (tgt := 432) d_MO_lastEnd_427 (by decide) ?_
            refine ab_istore d_MO_lastEnd_432 (Nat.le_of_ble_eq_true rfl) (Nat.le_of_ble_eq_true rfl) rfl ?_
            change ab_W _ _ _ G15 434 [some (vR 80), some (vz s), some (vz fm), some (vz n), some (vz ls), some (vz cl), some (vz (p + v7)), some (vz p), none, some (vz k), some (vz v7), none, none] [] _
            refine ab_aload_n d_MO_lastEnd_434 rfl ?_
            refine ab_getf (fs := mof m_thrown m_taped m_length m_out m_wide m_gathered m_sets m_ranges m_nodes m_at m_flags m_fault m_place m_numbered m_depth m_value m_isNot m_least0 m_most0 m_slot m_work m_got m_rowMany m_charAt m_charWide m_trail m_isMatch m_matchGroups m_allFrom m_allBefore m_founds m_pieces m_writtenMany m_templateWide m_tooMuch) f_MO_128 d_MO_lastEnd_435 h80.2.2 rfl ?_
            refine zz_sipush d_MO_lastEnd_438 (by decide) ?_
            refine ab_iload_n d_MO_lastEnd_441 rfl ?_
            refine zz_imul d_MO_lastEnd_442 ?_
            refine ab_iload d_MO_lastEnd_443 rfl ?_
            refine zz_iadd d_MO_lastEnd_445 ?_
            refine zz_iald d_MO_lastEnd_446 h118 (by omega) ?_
            have hq22 := jst ((12500 * s) + k) (by omega) (by omega)
            refine zz_if_ne (tgt := 454) d_MO_lastEnd_447 (by decide) (by omega) (fun c23 => ?_) (fun c23 => absurd c23 (by omega))
            refine zz_iinc d_MO_lastEnd_454 rfl (Nat.le_of_ble_eq_true rfl) (Nat.le_of_ble_eq_true rfl) rfl ?_
            change ab_W _ _ _ G15 457 [some (vR 80), some (vz s), some (vz fm), some (vz n), some (vz ls), some (vz cl), some (vz (p + v7)), some (vz p), none, some (vz (k + 1)), some (vz v7), none, none] [] _
            refine ab_goto (tgt := 338) d_MO_lastEnd_457 (by decide) ?_
            refine ab_less (L' := [some (vR 80), some (vz s), some (vz fm), some (vz n), some (vz ls), some (vz cl), some (vz (p + v7)), some (vz p), none, some (vz (k + 1)), none, none, none]) (fun i v h => by rcases i with _ | _ | _ | _ | _ | _ | _ | _ | _ | _ | _ | _ | _ | i <;> first | exact h | (simp at h)) ?_
            exact ih (k := (k + 1)) (far := (p + v7)) (ls := ls) (CO := B16) h80 h136 h118 h119 h121 h122 h123 h124 (by omega) (cld_mark jl (by omega) (lead_take (jl p k (by omega) (by omega) (by omega) (by omega) hq3).2 (by omega) (by omega) hmc hq8 (by omega)) hq17) (nlo_mark jlo (by omega) hq17) (cgr_mark jg hq17) (tdn_s jt jsg (by omega) (by omega) (cgr_mark cgr_rf hq17) (by omega) (by omega) (fun _ => ⟨tk_once hmc hq8 (fun z => ⟨by omega, (hq17 _ _ (by omega) (by omega)).mpr (Or.inr ⟨rfl, rfl⟩)⟩), fun t => by omega⟩)) je (by omega) hfr hlen hsl (by omega) hk0
      · cases hv
        rw [hGe]
        change ab_W _ _ _ G 355 [some (vR 80), some (vz s), some (vz fm), some (vz n), some (vz ls), some (vz cl), some (vz far), some (vz p), none, some (vz k), none, none, none] [vz 0] _
        refine zz_if_ne (tgt := 361) d_MO_lastEnd_355 (by decide) (by decide) (fun c24 => absurd c24 (by decide)) (fun c24 => ?_)
        refine ab_goto (tgt := 454) d_MO_lastEnd_358 (by decide) ?_
        refine zz_iinc d_MO_lastEnd_454 rfl (Nat.le_of_ble_eq_true rfl) (Nat.le_of_ble_eq_true rfl) rfl ?_
        change ab_W _ _ _ G 457 [some (vR 80), some (vz s), some (vz fm), some (vz n), some (vz ls), some (vz cl), some (vz far), some (vz p), none, some (vz (k + 1)), none, none, none] [] _
        refine ab_goto (tgt := 338) d_MO_lastEnd_457 (by decide) ?_
        exact ih (k := (k + 1)) (far := far) (ls := ls) (CO := CO) h80 h136 h118 h119 h121 h122 h123 h124 (by omega) jl jlo jg (tdn_s jt jsg (by omega) (by omega) cgr_rf (Int.le_refl _) (Int.le_refl _) (fun d => absurd ((jlo p k (by omega) (by omega) (by omega)).mpr d) hq4)) je (by omega) hfr hlen hsl (by omega) hk0
