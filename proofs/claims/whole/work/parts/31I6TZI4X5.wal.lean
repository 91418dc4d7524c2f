set_option maxRecDepth 100000 in
set_option maxHeartbeats 4000000 in
theorem y_MO_walk_38 {X : ab_X} {d : Nat} {Q : Outcome → ab_G → Prop} {o : Nat → Nat} {G0 : ab_G} {m_thrown : Int} {m_taped : Int} {m_length : Int} {m_out : Int} {m_gathered : Int} {m_sets : Int} {m_ranges : Int} {m_nodes : Int} {m_at : Int} {m_flags : Int} {m_fault : Int} {m_place : Int} {m_numbered : Int} {m_depth : Int} {m_value : Int} {m_isNot : Int} {m_least0 : Int} {m_most0 : Int} {m_slot : Int} {m_work : Int} {m_got : Int} {m_rowMany : Int} {m_isMatch : Int} {m_matchGroups : Int} {m_allFrom : Int} {m_allBefore : Int} {m_founds : Int} {m_pieces : Int} {m_writtenMany : Int} {m_templateWide : Int} {m_tooMuch : Int} {A_subject : Int → Int} {A_stepMany : Int → Int} {A_step : Int → Int} {A_next : Int → Int} {A_more : Int → Int} {A_classAt : Int → Int} {A_classMany : Int → Int} {A_classLow : Int → Int} {A_classHigh : Int → Int} {no : Nat} {lno : Nat} {NO : Int → Int} {s : Int} {fr : Int} {to : Int} {al : Int} {n : Int} {ls : Int} {fm : Int} {hw9 : Int} {S9 : Option (Int × Gr)} (n18 : ab_n0 = 18) (cno : 334 ≤ lno ∧ lno ≤ 336) (cle : 0 ≤ m_length ∧ m_length ≤ 2000) (cs : 0 ≤ s ∧ s ≤ 5 ∧ 0 ≤ n ∧ n ≤ 12500 ∧ 0 ≤ al ∧ al ≤ 1) (jsg : sgood A_step A_next A_more A_classAt A_classMany (12500 * s) n) (jst : rgs A_step 75000 0 6) (jcl : rgs A_classLow 3600 0 1114111) (jch : rgs A_classHigh 3600 0 1114111) (jsb : rgs A_subject 2000 0 255) (hl1 : ls < 0 → fr = m_length ∧ al = 0) (hl2 : 0 ≤ ls → ls = fr ∧ al = 1) (cls : -1 ≤ ls ∧ fr ≤ m_length ∧ 0 ≤ to ∧ to ≤ fr) (hnr : nrows A_step A_next A_more A_classAt A_classMany A_classLow A_classHigh A_subject NO m_length (12500 * s) n fr al (to - 1)) (cs2 : A_stepMany s = n) (hnt : ntK A_step A_next A_more A_classAt A_classMany A_classLow A_classHigh A_subject NO m_length (12500 * s) n fr al to) (hhw : hwA al hw9) (hd : 6 ≤ d) : ∀ (mz : Nat) {G : ab_G} {p : Int} {k : Int} {en : Int} {m_wide : Int} {m_charAt : Int} {m_charWide : Int} {m_trail : Int} {Z : Int → Int} {SP : Int → Int} {PL : Int → Int} {PT : Int → Int} {TS : Int → Int} {TO : Int → Int}, (cc o G 80 280 (ab_ob 12 (mof m_thrown m_taped m_length m_out m_wide m_gathered m_sets m_ranges m_nodes m_at m_flags m_fault m_place m_numbered m_depth m_value m_isNot m_least0 m_most0 m_slot m_work m_got m_rowMany m_charAt m_charWide m_trail m_isMatch m_matchGroups m_allFrom m_allBefore m_founds m_pieces m_writtenMany m_templateWide m_tooMuch))) → (cc o G 138 338 (za 20 SP)) → (cc o G 142 342 (za 25000 PL)) → (cc o G 143 343 (za 25000 PT)) → (cc o G 140 340 (za 12500 TS)) → (cc o G 141 341 (za 12500 TO)) → (cc o G 144 344 (zb 12500 Z)) → (cc o G no lno (zl 392196 NO)) → (cc o G 118 318 (za 75000 A_step)) → (cc o G 119 319 (za 75000 A_next)) → (cc o G 120 320 (za 75000 A_more)) → (cc o G 121 321 (za 75000 A_classAt)) → (cc o G 122 322 (za 75000 A_classMany)) → (cc o G 123 323 (za 3600 A_classLow)) → (cc o G 124 324 (za 3600 A_classHigh)) → (cc o G 85 285 (za 2000 A_subject)) → (cc o G 117 317 (za 6 A_stepMany)) → (0 ≤ en ∧ en ≤ 1 ∧ to ≤ p ∧ p ≤ fr ∧ fm ≤ p) → (en = 0 → 0 ≤ k ∧ k < n ∧ nbit NO p k) → (rgs Z 12500 0 1) → (rgs SP 20 (-1) 2000) → (rgs PT 25000 0 12500) → (rgs TS 12500 0 19) → (rgs TO 12500 (-1) 2000) → (weB A_step A_next A_more A_classAt A_classMany A_classLow A_classHigh A_subject m_length (12500 * s) hw9 fr k p SP en S9) → (fx o o [280, 338, 342, 343, 340, 341, 344] G0 G) → (G.length = G0.length) → (ab_slots G = ab_slots G0) → (Int.toNat (2 * (fr + 1 - p) - en) < mz) → (∀ (G2 : ab_G) (p2 : Int) (w2 : Int) (c2 : Int) (cw2 : Int) (t2 : Int) (Z2 : Int → Int) (SP2 : Int → Int) (PL2 : Int → Int) (PT2 : Int → Int) (TS2 : Int → Int) (TO2 : Int → Int), (cc o G2 80 280 (ab_ob 12 (mof m_thrown m_taped m_length m_out w2 m_gathered m_sets m_ranges m_nodes m_at m_flags m_fault m_place m_numbered m_depth m_value m_isNot m_least0 m_most0 m_slot m_work m_got m_rowMany c2 cw2 t2 m_isMatch m_matchGroups m_allFrom m_allBefore m_founds m_pieces m_writtenMany m_templateWide m_tooMuch))) → (cc o G2 138 338 (za 20 SP2)) → (cc o G2 142 342 (za 25000 PL2)) → (cc o G2 143 343 (za 25000 PT2)) → (cc o G2 140 340 (za 12500 TS2)) → (cc o G2 141 341 (za 12500 TO2)) → (cc o G2 144 344 (zb 12500 Z2)) → (rgs SP2 20 (-1) 2000) → (rgs PT2 25000 0 12500) → (rgs TS2 12500 0 19) → (rgs TO2 12500 (-1) 2000) → (rgs Z2 12500 0 1) → (fm ≤ p2 ∧ p2 ≤ fr) → (S9 = some (p2, gQ SP2)) → (fx o o [280, 338, 342, 343, 340, 341, 344] G0 G2) → (G2.length = G0.length) → (ab_slots G2 = ab_slots G0) → ab_W X (ab_pl y_MO_walk b_MO_walk 12 none) d G2 324 [some (vR 80), none, none, some (vz fm), none, some (vz p2), none, none, none, none, none, none] [] Q) → ab_W X (ab_pl y_MO_walk b_MO_walk 12 none) d G 38 [some (vR 80), some (vR no), some (vz s), some (vz fm), some (vz ls), some (vz p), some (vz k), some (vz en), none, none, none, none] [] Q := by
  intro mz
  induction mz with
  | zero => intro G p k en m_wide m_charAt m_charWide m_trail Z SP PL PT TS TO h80 h138 h142 h143 h140 h141 h144 hno h118 h119 h120 h121 h122 h123 h124 h85 h117 ci jw jz jsp jpt jts jto jw9 hfr hlen hsl hm hk0; exact absurd hm (Nat.not_lt_zero _)
  | succ mz ih =>
    intro G p k en m_wide m_charAt m_charWide m_trail Z SP PL PT TS TO h80 h138 h142 h143 h140 h141 h144 hno h118 h119 h120 h121 h122 h123 h124 h85 h117 ci jw jz jsp jpt jts jto jw9 hfr hlen hsl hm hk0
    refine ab_iload d_MO_walk_38 rfl ?_
    refine zz_if_ne (tgt := 324) d_MO_walk_40 (by decide) (by omega) (fun c1 => ?_) (fun c1 => ?_)
    · refine ab_less (L' := [some (vR 80), none, none, some (vz fm), none, some (vz p), none, none, none, none, none, none]) (fun i v h => by rcases i with _ | _ | _ | _ | _ | _ | _ | _ | _ | _ | _ | _ | i <;> first | exact h | (simp at h)) ?_
      exact hk0 _ _ _ _ _ _ _ _ _ _ _ _ h80 h138 h142 h143 h140 h141 h144 (by exact jsp) (by exact jpt) (by exact jts) (by exact jto) (by exact jz) (by omega) (by exact jw9.1 (by omega)) hfr hlen hsl
    · obtain ⟨hk1_, hk2_, hk3_⟩ := jw (by omega)
      refine ab_aload_n d_MO_walk_43 rfl ?_
      refine ab_iload d_MO_walk_44 rfl ?_
      refine ab_callV (d' := d - 1) (as := [vz p]) (st := []) (r := _) (z_MO_look (o := o) (m_thrown := m_thrown) (m_taped := m_taped) (m_length := m_length) (m_out := m_out) (m_wide := m_wide) (m_gathered := m_gathered) (m_sets := m_sets) (m_ranges := m_ranges) (m_nodes := m_nodes) (m_at := m_at) (m_flags := m_flags) (m_fault := m_fault) (m_place := m_place) (m_numbered := m_numbered) (m_depth := m_depth) (m_value := m_value) (m_isNot := m_isNot) (m_least0 := m_least0) (m_most0 := m_most0) (m_slot := m_slot) (m_work := m_work) (m_got := m_got) (m_rowMany := m_rowMany) (m_charAt := m_charAt) (m_charWide := m_charWide) (m_trail := m_trail) (m_isMatch := m_isMatch) (m_matchGroups := m_matchGroups) (m_allFrom := m_allFrom) (m_allBefore := m_allBefore) (m_founds := m_founds) (m_pieces := m_pieces) (m_writtenMany := m_writtenMany) (m_templateWide := m_templateWide) (m_tooMuch := m_tooMuch) (A_subject := A_subject) (p := p) h80 h85 (by omega) (by omega) jsb (by omega) (by omega)) (fun oc G2 h => by rcases h with ⟨_, _, h, _⟩ <;> exact ⟨_, h⟩) (by omega) m_MO_look ml_MO_522 im_MO_look se_MO_look c_MO h80.2.2 (Nat.le_of_ble_eq_true rfl) d_MO_walk_46 rfl ?_
      intro v G2 hq
      rcases hq with ⟨c3, w4, hv, hfk, hlk, hsk, hN80, hq5, hq6, hq7⟩
      cases hv
      have h138 := hfk.get h138 (by decide)
      have h142 := hfk.get h142 (by decide)
      have h143 := hfk.get h143 (by decide)
      have h140 := hfk.get h140 (by decide)
      have h141 := hfk.get h141 (by decide)
      have h144 := hfk.get h144 (by decide)
      have hno := hfk.get hno (by simp only [List.mem_cons, List.not_mem_nil, or_false]; omega)
      have h118 := hfk.get h118 (by decide)
      have h119 := hfk.get h119 (by decide)
      have h120 := hfk.get h120 (by decide)
      have h121 := hfk.get h121 (by decide)
      have h122 := hfk.get h122 (by decide)
      have h123 := hfk.get h123 (by decide)
      have h124 := hfk.get h124 (by decide)
      have h85 := hfk.get h85 (by decide)
      have h117 := hfk.get h117 (by decide)
      have hfr := hfr.tr hfk (by decide)
      have hlen := hlk.trans hlen
      have hsl := hsk.trans hsl
      have h80 := hN80
      change ab_W _ _ _ G2 49 [some (vR 80), some (vR no), some (vz s), some (vz fm), some (vz ls), some (vz p), some (vz k), some (vz en), none, none, none, none] [] _
      refine zz_iconst d_MO_walk_49 ?_
      refine ab_istore d_MO_walk_50 (Nat.le_of_ble_eq_true rfl) (Nat.le_of_ble_eq_true rfl) rfl ?_
      change ab_W _ _ _ G2 52 [some (vR 80), some (vR no), some (vz s), some (vz fm), some (vz ls), some (vz p), some (vz k), some (vz en), some (vz 1), none, none, none] [] _
      refine ab_aload_n d_MO_walk_52 rfl ?_
      refine ab_getf (fs := mof m_thrown m_taped m_length m_out w4 m_gathered m_sets m_ranges m_nodes m_at m_flags m_fault m_place m_numbered m_depth m_value m_isNot m_least0 m_most0 m_slot m_work m_got m_rowMany c3 w4 m_trail m_isMatch m_matchGroups m_allFrom m_allBefore m_founds m_pieces m_writtenMany m_templateWide m_tooMuch) f_MO_202 d_MO_walk_53 h80.2.2 rfl ?_
      refine zz_iconst d_MO_walk_56 ?_
      refine ab_iload d_MO_walk_57 rfl ?_
      refine zz_iast d_MO_walk_59 h142 (by omega) (h142.2.1 (by decide)) ?_
      obtain ⟨G8, eG8⟩ : ∃ z : ab_G, z = List.set G2 142 (za 25000 (zu PL 0 k)) := ⟨_, rfl⟩
      have h80 := h80.keep h142 eG8 (by decide)
      have h138 := h138.keep h142 eG8 (by decide)
      have h143 := h143.keep h142 eG8 (by decide)
      have h140 := h140.keep h142 eG8 (by decide)
      have h141 := h141.keep h142 eG8 (by decide)
      have h144 := h144.keep h142 eG8 (by decide)
      have hno := hno.keep h142 eG8 (by omega)
      have h118 := h118.keep h142 eG8 (by decide)
      have h119 := h119.keep h142 eG8 (by decide)
      have h120 := h120.keep h142 eG8 (by decide)
      have h121 := h121.keep h142 eG8 (by decide)
      have h122 := h122.keep h142 eG8 (by decide)
      have h123 := h123.keep h142 eG8 (by decide)
      have h124 := h124.keep h142 eG8 (by decide)
      have h85 := h85.keep h142 eG8 (by decide)
      have h117 := h117.keep h142 eG8 (by decide)
      have hlen := (z_len eG8).trans hlen
      have hsl := (z_sl h142 eG8 rfl).trans hsl
      have hfr := hfr.wr h142 eG8 (by decide)
      have h142 := h142.kept eG8
      change ab_W _ _ _ (List.set G2 142 (za 25000 (zu PL 0 k))) 60 [some (vR 80), some (vR no), some (vz s), some (vz fm), some (vz ls), some (vz p), some (vz k), some (vz en), some (vz 1), none, none, none] [] _
      rw [← eG8]
      refine ab_aload_n d_MO_walk_60 rfl ?_
      refine ab_getf (fs := mof m_thrown m_taped m_length m_out w4 m_gathered m_sets m_ranges m_nodes m_at m_flags m_fault m_place m_numbered m_depth m_value m_isNot m_least0 m_most0 m_slot m_work m_got m_rowMany c3 w4 m_trail m_isMatch m_matchGroups m_allFrom m_allBefore m_founds m_pieces m_writtenMany m_templateWide m_tooMuch) f_MO_205 d_MO_walk_61 h80.2.2 rfl ?_
      refine zz_iconst d_MO_walk_64 ?_
      refine zz_iconst d_MO_walk_65 ?_
      refine zz_iast d_MO_walk_66 h143 (by omega) (h143.2.1 (by decide)) ?_
      obtain ⟨G9, eG9⟩ : ∃ z : ab_G, z = List.set G8 143 (za 25000 (zu PT 0 0)) := ⟨_, rfl⟩
      have h80 := h80.keep h143 eG9 (by decide)
      have h138 := h138.keep h143 eG9 (by decide)
      have h142 := h142.keep h143 eG9 (by decide)
      have h140 := h140.keep h143 eG9 (by decide)
      have h141 := h141.keep h143 eG9 (by decide)
      have h144 := h144.keep h143 eG9 (by decide)
      have hno := hno.keep h143 eG9 (by omega)
      have h118 := h118.keep h143 eG9 (by decide)
      have h119 := h119.keep h143 eG9 (by decide)
      have h120 := h120.keep h143 eG9 (by decide)
      have h121 := h121.keep h143 eG9 (by decide)
      have h122 := h122.keep h143 eG9 (by decide)
      have h123 := h123.keep h143 eG9 (by decide)
      have h124 := h124.keep h143 eG9 (by decide)
      have h85 := h85.keep h143 eG9 (by decide)
      have h117 := h117.keep h143 eG9 (by decide)
      have hlen := (z_len eG9).trans hlen
      have hsl := (z_sl h143 eG9 rfl).trans hsl
      have hfr := hfr.wr h143 eG9 (by decide)
      have h143 := h143.kept eG9
      change ab_W _ _ _ (List.set G8 143 (za 25000 (zu PT 0 0))) 67 [some (vR 80), some (vR no), some (vz s), some (vz fm), some (vz ls), some (vz p), some (vz k), some (vz en), some (vz 1), none, none, none] [] _
      rw [← eG9]
      refine ab_aload_n d_MO_walk_67 rfl ?_
      refine zz_iconst d_MO_walk_68 ?_
      refine ab_putf (fs := mof m_thrown m_taped m_length m_out w4 m_gathered m_sets m_ranges m_nodes m_at m_flags m_fault m_place m_numbered m_depth m_value m_isNot m_least0 m_most0 m_slot m_work m_got m_rowMany c3 w4 m_trail m_isMatch m_matchGroups m_allFrom m_allBefore m_founds m_pieces m_writtenMany m_templateWide m_tooMuch) f_MO_540 (Or.inl rfl) d_MO_walk_69 h80.2.2 (Nat.le_of_ble_eq_true rfl) (fun _ => ⟨rfl, rfl⟩) (h80.2.1 (by decide)) ?_
      obtain ⟨G10, eG10⟩ : ∃ z : ab_G, z = List.set G9 80 (ab_ob 12 (mof m_thrown m_taped m_length m_out w4 m_gathered m_sets m_ranges m_nodes m_at m_flags m_fault m_place m_numbered m_depth m_value m_isNot m_least0 m_most0 m_slot m_work m_got m_rowMany c3 w4 0 m_isMatch m_matchGroups m_allFrom m_allBefore m_founds m_pieces m_writtenMany m_templateWide m_tooMuch)) := ⟨_, rfl⟩
      have h138 := h138.keep h80 eG10 (by decide)
      have h142 := h142.keep h80 eG10 (by decide)
      have h143 := h143.keep h80 eG10 (by decide)
      have h140 := h140.keep h80 eG10 (by decide)
      have h141 := h141.keep h80 eG10 (by decide)
      have h144 := h144.keep h80 eG10 (by decide)
      have hno := hno.keep h80 eG10 (by omega)
      have h118 := h118.keep h80 eG10 (by decide)
      have h119 := h119.keep h80 eG10 (by decide)
      have h120 := h120.keep h80 eG10 (by decide)
      have h121 := h121.keep h80 eG10 (by decide)
      have h122 := h122.keep h80 eG10 (by decide)
      have h123 := h123.keep h80 eG10 (by decide)
      have h124 := h124.keep h80 eG10 (by decide)
      have h85 := h85.keep h80 eG10 (by decide)
      have h117 := h117.keep h80 eG10 (by decide)
      have hlen := (z_len eG10).trans hlen
      have hsl := (z_sl h80 eG10 rfl).trans hsl
      have hfr := hfr.wr h80 eG10 (by decide)
      have h80 := h80.kept eG10
      change ab_W _ _ _ (List.set G9 80 (ab_ob 12 (mof m_thrown m_taped m_length m_out w4 m_gathered m_sets m_ranges m_nodes m_at m_flags m_fault m_place m_numbered m_depth m_value m_isNot m_least0 m_most0 m_slot m_work m_got m_rowMany c3 w4 0 m_isMatch m_matchGroups m_allFrom m_allBefore m_founds m_pieces m_writtenMany m_templateWide m_tooMuch))) 72 [some (vR 80), some (vR no), some (vz s), some (vz fm), some (vz ls), some (vz p), some (vz k), some (vz en), some (vz 1), none, none, none] [] _
      rw [← eG10]
      refine zz_iconst d_MO_walk_72 ?_
      refine ab_istore d_MO_walk_73 (Nat.le_of_ble_eq_true rfl) (Nat.le_of_ble_eq_true rfl) rfl ?_
      change ab_W _ _ _ G10 75 [some (vR 80), some (vR no), some (vz s), some (vz fm), some (vz ls), some (vz p), some (vz k), some (vz en), some (vz 1), some (vz 0), none, none] [] _
      refine y_MO_walk_75 (m_thrown := m_thrown) (m_taped := m_taped) (m_length := m_length) (m_out := m_out) (m_wide := w4) (m_gathered := m_gathered) (m_sets := m_sets) (m_ranges := m_ranges) (m_nodes := m_nodes) (m_at := m_at) (m_flags := m_flags) (m_fault := m_fault) (m_place := m_place) (m_numbered := m_numbered) (m_depth := m_depth) (m_value := m_value) (m_isNot := m_isNot) (m_least0 := m_least0) (m_most0 := m_most0) (m_slot := m_slot) (m_work := m_work) (m_got := m_got) (m_rowMany := m_rowMany) (m_charAt := c3) (m_charWide := w4) (m_trail := 0) (m_isMatch := m_isMatch) (m_matchGroups := m_matchGroups) (m_allFrom := m_allFrom) (m_allBefore := m_allBefore) (m_founds := m_founds) (m_pieces := m_pieces) (m_writtenMany := m_writtenMany) (m_templateWide := m_templateWide) (m_tooMuch := m_tooMuch) (A_stepMany := A_stepMany) (no := no) (s := s) (n := n) (p := p) (k := k) (m := 1) (ls := ls) (en := en) (fm := fm) (G0 := G10) (i_ := 0) (Z := Z) (by omega) (by omega) (by omega) (Int.toNat (n - 0) + 1) h80 h144 h117 (by omega) jz nze_0 fx.rf rfl rfl (by omega) (fun G11 Z212 hN144 hq13 hq14 hfk hlk hsk => ?_)
      · have h80 := hfk.get h80 (by decide)
        have h138 := hfk.get h138 (by decide)
        have h142 := hfk.get h142 (by decide)
        have h143 := hfk.get h143 (by decide)
        have h140 := hfk.get h140 (by decide)
        have h141 := hfk.get h141 (by decide)
        have hno := hfk.get hno (by simp only [List.mem_cons, List.not_mem_nil, or_false]; omega)
        have h118 := hfk.get h118 (by decide)
        have h119 := hfk.get h119 (by decide)
        have h120 := hfk.get h120 (by decide)
        have h121 := hfk.get h121 (by decide)
        have h122 := hfk.get h122 (by decide)
        have h123 := hfk.get h123 (by decide)
        have h124 := hfk.get h124 (by decide)
        have h85 := hfk.get h85 (by decide)
        have h117 := hfk.get h117 (by decide)
        have hfr := hfr.tr hfk (by decide)
        have hlen := hlk.trans hlen
        have hsl := hsk.trans hsl
        have h144 := hN144
        change ab_W _ _ _ G11 100 [some (vR 80), some (vR no), some (vz s), some (vz fm), some (vz ls), some (vz p), some (vz k), some (vz en), some (vz 1), none, none, none] [] _
        have hnz_ := nz_in (Z := Z212) (n := n) (by omega)
        refine zz_iconst d_MO_walk_100 ?_
        refine ab_istore d_MO_walk_101 (Nat.le_of_ble_eq_true rfl) (Nat.le_of_ble_eq_true rfl) rfl ?_
        change ab_W _ _ _ G11 103 [some (vR 80), some (vR no), some (vz s), some (vz fm), some (vz ls), some (vz p), some (vz k), some (vz en), some (vz 1), some (vz 0), none, none] [] _
        refine y_MO_walk_103 (m_thrown := m_thrown) (m_taped := m_taped) (m_length := m_length) (m_out := m_out) (m_wide := w4) (m_gathered := m_gathered) (m_sets := m_sets) (m_ranges := m_ranges) (m_nodes := m_nodes) (m_at := m_at) (m_flags := m_flags) (m_fault := m_fault) (m_place := m_place) (m_numbered := m_numbered) (m_depth := m_depth) (m_value := m_value) (m_isNot := m_isNot) (m_least0 := m_least0) (m_most0 := m_most0) (m_slot := m_slot) (m_work := m_work) (m_got := m_got) (m_rowMany := m_rowMany) (m_charAt := c3) (m_charWide := w4) (m_isMatch := m_isMatch) (m_matchGroups := m_matchGroups) (m_allFrom := m_allFrom) (m_allBefore := m_allBefore) (m_founds := m_founds) (m_pieces := m_pieces) (m_writtenMany := m_writtenMany) (m_templateWide := m_templateWide) (m_tooMuch := m_tooMuch) (A_subject := A_subject) (A_step := A_step) (A_next := A_next) (A_more := A_more) (A_classAt := A_classAt) (A_classMany := A_classMany) (A_classLow := A_classLow) (A_classHigh := A_classHigh) (no := no) (lno := lno) (NO := NO) (s := s) (ls := ls) (k0 := k) (p0 := p) (fm := fm) (hw9 := hw9) (S9 := S9) (G0 := G11) (p := p) (k := k) (en := en) (m := 1) (go_ := 0) (m_trail := 0) (Z := Z212) (SP := SP) (PL := (zu PL 0 k)) (PT := (zu PT 0 0)) (TS := TS) (TO := TO) (by omega) (by omega) (by omega) (by omega) jsg jst jcl jch jsb (by omega) (by omega) (by omega) (by omega) hk3_ hnr (by omega) (by omega) hq5 hnt hhw (by omega) (Int.toNat (2 * nz Z212 n + 1) + 1) h80 h138 h142 h143 h140 h141 h144 hno h118 h119 h120 h121 h122 h123 h124 h85 (by omega) hq13 jsp (rgs_zu jpt (by omega)) jts jto (fun j a c => by rw [show j = 0 by omega, zu_self]; omega) (fun _ _ => ⟨rfl, dfs_0 hq14⟩) (fun h => absurd h (by decide)) (fun h => by omega) (wlB_0 (jw9.2 (by omega)) (by omega) ⟨zu_self _ _ _, zu_self _ _ _⟩ hq14 ⟨by omega, by omega⟩) fx.rf rfl rfl (by omega) (fun G15 p216 k217 e218 t219 Z220 SP221 PL222 PT223 TS224 TO225 hN80 hN138 hN142 hN143 hN140 hN141 hN144 hq26 hq27 hq28 hq29 hq30 hq31 hq32 hfk hlk hsk => ?_)
        · have hno := hfk.get hno (by simp only [List.mem_cons, List.not_mem_nil, or_false]; omega)
          have h118 := hfk.get h118 (by decide)
          have h119 := hfk.get h119 (by decide)
          have h120 := hfk.get h120 (by decide)
          have h121 := hfk.get h121 (by decide)
          have h122 := hfk.get h122 (by decide)
          have h123 := hfk.get h123 (by decide)
          have h124 := hfk.get h124 (by decide)
          have h85 := hfk.get h85 (by decide)
          have h117 := hfk.get h117 (by decide)
          have hfr := hfr.tr hfk (by decide)
          have hlen := hlk.trans hlen
          have hsl := hsk.trans hsl
          have h80 := hN80
          have h138 := hN138
          have h142 := hN142
          have h143 := hN143
          have h140 := hN140
          have h141 := hN141
          have h144 := hN144
          change ab_W _ _ _ G15 321 [some (vR 80), some (vR no), some (vz s), some (vz fm), some (vz ls), some (vz p216), some (vz k217), some (vz e218), none, none, none, none] [] _
          refine ab_goto (tgt := 38) d_MO_walk_321 (by decide) ?_
          exact ih (p := p216) (k := k217) (en := e218) (m_wide := w4) (m_charAt := c3) (m_charWide := w4) (m_trail := t219) (Z := Z220) (SP := SP221) (PL := PL222) (PT := PT223) (TS := TS224) (TO := TO225) h80 h138 h142 h143 h140 h141 h144 hno h118 h119 h120 h121 h122 h123 h124 h85 h117 (by omega) (fun q => by rcases hq31 with z | z; (omega); (exact ⟨z.2.2.2.1, z.2.2.2.2.1, z.2.2.2.2.2⟩)) hq30 hq26 hq27 hq28 hq29 hq32 hfr hlen hsl (by omega) hk0
set_option maxRecDepth 100000 in
set_option maxHeartbeats 4000000 in
theorem z_MO_walk {X : ab_X} {d : Nat} {o : Nat → Nat} {G : ab_G} {m_thrown : Int} {m_taped : Int} {m_length : Int} {m_out : Int} {m_wide : Int} {m_gathered : Int} {m_sets : Int} {m_ranges : Int} {m_nodes : Int} {m_at : Int} {m_flags : Int} {m_fault : Int} {m_place : Int} {m_numbered : Int} {m_depth : Int} {m_value : Int} {m_isNot : Int} {m_least0 : Int} {m_most0 : Int} {m_slot : Int} {m_work : Int} {m_got : Int} {m_rowMany : Int} {m_charAt : Int} {m_charWide : Int} {m_trail : Int} {m_isMatch : Int} {m_matchGroups : Int} {m_allFrom : Int} {m_allBefore : Int} {m_founds : Int} {m_pieces : Int} {m_writtenMany : Int} {m_templateWide : Int} {m_tooMuch : Int} {A_subject : Int → Int} {A_stepMany : Int → Int} {A_step : Int → Int} {A_next : Int → Int} {A_more : Int → Int} {A_classAt : Int → Int} {A_classMany : Int → Int} {A_classLow : Int → Int} {A_classHigh : Int → Int} {no : Nat} {lno : Nat} {NO : Int → Int} {Z : Int → Int} {s : Int} {fr : Int} {to : Int} {al : Int} {SP : Int → Int} {PL : Int → Int} {PT : Int → Int} {TS : Int → Int} {TO : Int → Int} {ls : Int} {fm : Int} {hw9 : Int} {S9 : Option (Int × Gr)} {A_entry : Int → Int} (h80 : cc o G 80 280 (ab_ob 12 (mof m_thrown m_taped m_length m_out m_wide m_gathered m_sets m_ranges m_nodes m_at m_flags m_fault m_place m_numbered m_depth m_value m_isNot m_least0 m_most0 m_slot m_work m_got m_rowMany m_charAt m_charWide m_trail m_isMatch m_matchGroups m_allFrom m_allBefore m_founds m_pieces m_writtenMany m_templateWide m_tooMuch))) (h138 : cc o G 138 338 (za 20 SP)) (h142 : cc o G 142 342 (za 25000 PL)) (h143 : cc o G 143 343 (za 25000 PT)) (h140 : cc o G 140 340 (za 12500 TS)) (h141 : cc o G 141 341 (za 12500 TO)) (h144 : cc o G 144 344 (zb 12500 Z)) (hno : cc o G no lno (zl 392196 NO)) (h118 : cc o G 118 318 (za 75000 A_step)) (h119 : cc o G 119 319 (za 75000 A_next)) (h120 : cc o G 120 320 (za 75000 A_more)) (h121 : cc o G 121 321 (za 75000 A_classAt)) (h122 : cc o G 122 322 (za 75000 A_classMany)) (h123 : cc o G 123 323 (za 3600 A_classLow)) (h124 : cc o G 124 324 (za 3600 A_classHigh)) (h85 : cc o G 85 285 (za 2000 A_subject)) (h117 : cc o G 117 317 (za 6 A_stepMany)) (h113 : cc o G 113 313 (za 6 A_entry)) (n18 : ab_n0 = 18) (cno : 334 ≤ lno ∧ lno ≤ 336) (cle : 0 ≤ m_length ∧ m_length ≤ 2000) (cs : 0 ≤ s ∧ s ≤ 5 ∧ 0 ≤ (A_stepMany s) ∧ (A_stepMany s) ≤ 12500 ∧ 0 ≤ al ∧ al ≤ 1) (jsg : sgood A_step A_next A_more A_classAt A_classMany (12500 * s) (A_stepMany s)) (jst : rgs A_step 75000 0 6) (jcl : rgs A_classLow 3600 0 1114111) (jch : rgs A_classHigh 3600 0 1114111) (jsb : rgs A_subject 2000 0 255) (hl1 : ls < 0 → fr = m_length ∧ al = 0) (hl2 : 0 ≤ ls → ls = fr ∧ al = 1) (cls : -1 ≤ ls ∧ fr ≤ m_length ∧ 0 ≤ to ∧ to ≤ fr) (hnr : nrows A_step A_next A_more A_classAt A_classMany A_classLow A_classHigh A_subject NO m_length (12500 * s) (A_stepMany s) fr al (to - 1)) (hnt : ntK A_step A_next A_more A_classAt A_classMany A_classLow A_classHigh A_subject NO m_length (12500 * s) (A_stepMany s) fr al to) (hhw : hwA al hw9) (cen : 0 ≤ A_entry s ∧ A_entry s < A_stepMany s ∧ to ≤ fm ∧ fm ≤ fr) (hb : nbit NO fm (A_entry s)) (jz : rgs Z 12500 0 1) (jsp : rgs SP 20 (-1) 2000) (jpt : rgs PT 25000 0 12500) (jts : rgs TS 12500 0 19) (jto : rgs TO 12500 (-1) 2000) (jg0 : gn0 A_step A_next A_more A_classAt A_classMany A_classLow A_classHigh A_subject m_length (12500 * s) hw9 fr (A_entry s) fm S9) (hd : 7 ≤ d) : ab_F X d y_MO_walk (.code y_MO_walk b_MO_walk 12 none) [vR 80, vR no, vz s, vz fm, vz ls] G (fun oc G2 => ∃ p2 : Int, ∃ w2 : Int, ∃ c2 : Int, ∃ cw2 : Int, ∃ t2 : Int, ∃ Z2 : Int → Int, ∃ SP2 : Int → Int, ∃ PL2 : Int → Int, ∃ PT2 : Int → Int, ∃ TS2 : Int → Int, ∃ TO2 : Int → Int, oc = .returned none ∧ fx o o [280, 338, 342, 343, 340, 341, 344] G G2 ∧ G2.length = G.length ∧ ab_slots G2 = ab_slots G ∧ cc o G2 80 280 (ab_ob 12 (mof m_thrown m_taped m_length m_out w2 m_gathered m_sets m_ranges m_nodes m_at m_flags m_fault m_place m_numbered m_depth m_value m_isNot m_least0 m_most0 m_slot m_work m_got m_rowMany c2 cw2 t2 m_isMatch m_matchGroups m_allFrom m_allBefore m_founds m_pieces m_writtenMany m_templateWide m_tooMuch)) ∧ cc o G2 138 338 (za 20 SP2) ∧ cc o G2 142 342 (za 25000 PL2) ∧ cc o G2 143 343 (za 25000 PT2) ∧ cc o G2 140 340 (za 12500 TS2) ∧ cc o G2 141 341 (za 12500 TO2) ∧ cc o G2 144 344 (zb 12500 Z2) ∧ (rgs SP2 20 (-1) 2000) ∧ (rgs PT2 25000 0 12500) ∧ (rgs TS2 12500 0 19) ∧ (rgs TO2 12500 (-1) 2000) ∧ (rgs Z2 12500 0 1) ∧ (SP2 0 = fm) ∧ (SP2 1 = p2) ∧ (fm ≤ p2 ∧ p2 ≤ fr) ∧ (mch S9 1 SP2 20 fm)) := by
  refine ab_F_of (by decide +kernel) (Nat.le_of_ble_eq_true rfl) ?_
  obtain ⟨Q, hQ⟩ : ∃ z : Outcome → ab_G → Prop, z = (fun oc G2 => ∃ p2 : Int, ∃ w2 : Int, ∃ c2 : Int, ∃ cw2 : Int, ∃ t2 : Int, ∃ Z2 : Int → Int, ∃ SP2 : Int → Int, ∃ PL2 : Int → Int, ∃ PT2 : Int → Int, ∃ TS2 : Int → Int, ∃ TO2 : Int → Int, oc = .returned none ∧ fx o o [280, 338, 342, 343, 340, 341, 344] G G2 ∧ G2.length = G.length ∧ ab_slots G2 = ab_slots G ∧ cc o G2 80 280 (ab_ob 12 (mof m_thrown m_taped m_length m_out w2 m_gathered m_sets m_ranges m_nodes m_at m_flags m_fault m_place m_numbered m_depth m_value m_isNot m_least0 m_most0 m_slot m_work m_got m_rowMany c2 cw2 t2 m_isMatch m_matchGroups m_allFrom m_allBefore m_founds m_pieces m_writtenMany m_templateWide m_tooMuch)) ∧ cc o G2 138 338 (za 20 SP2) ∧ cc o G2 142 342 (za 25000 PL2) ∧ cc o G2 143 343 (za 25000 PT2) ∧ cc o G2 140 340 (za 12500 TS2) ∧ cc o G2 141 341 (za 12500 TO2) ∧ cc o G2 144 344 (zb 12500 Z2) ∧ (rgs SP2 20 (-1) 2000) ∧ (rgs PT2 25000 0 12500) ∧ (rgs TS2 12500 0 19) ∧ (rgs TO2 12500 (-1) 2000) ∧ (rgs Z2 12500 0 1) ∧ (SP2 0 = fm) ∧ (SP2 1 = p2) ∧ (fm ≤ p2 ∧ p2 ≤ fr) ∧ (mch S9 1 SP2 20 fm)) := ⟨_, rfl⟩
  rw [← hQ]
  change ab_W X (ab_pl y_MO_walk b_MO_walk 12 none) d G 0 [some (vR 80), some (vR no), some (vz s), some (vz fm), some (vz ls), none, none, none, none, none, none, none] [] Q
  have hfr : fx o o [280, 338, 342, 343, 340, 341, 344] G G := fx.rf
  have hlen : G.length = G.length := rfl
  have hsl : ab_slots G = ab_slots G := rfl
  refine zz_iconst d_MO_walk_0 ?_
  refine ab_istore d_MO_walk_1 (Nat.le_of_ble_eq_true rfl) (Nat.le_of_ble_eq_true rfl) rfl ?_
  change ab_W _ _ _ G 3 [some (vR 80), some (vR no), some (vz s), some (vz fm), some (vz ls), some (vz 0), none, none, none, none, none, none] [] _
  refine y_MO_walk_3 (m_thrown := m_thrown) (m_taped := m_taped) (m_length := m_length) (m_out := m_out) (m_wide := m_wide) (m_gathered := m_gathered) (m_sets := m_sets) (m_ranges := m_ranges) (m_nodes := m_nodes) (m_at := m_at) (m_flags := m_flags) (m_fault := m_fault) (m_place := m_place) (m_numbered := m_numbered) (m_depth := m_depth) (m_value := m_value) (m_isNot := m_isNot) (m_least0 := m_least0) (m_most0 := m_most0) (m_slot := m_slot) (m_work := m_work) (m_got := m_got) (m_rowMany := m_rowMany) (m_charAt := m_charAt) (m_charWide := m_charWide) (m_trail := m_trail) (m_isMatch := m_isMatch) (m_matchGroups := m_matchGroups) (m_allFrom := m_allFrom) (m_allBefore := m_allBefore) (m_founds := m_founds) (m_pieces := m_pieces) (m_writtenMany := m_writtenMany) (m_templateWide := m_templateWide) (m_tooMuch := m_tooMuch) (no := no) (s := s) (ls := ls) (fm := fm) (G0 := G) (i_ := 0) (SP := SP) (by omega) (by omega) (Int.toNat (20 - 0) + 1) h80 h138 (by omega) jsp nmS_0 fx.rf rfl rfl (by omega) (fun G1 SP22 hN138 hq3 hq4 hfk hlk hsk => ?_)
  · have h80 := hfk.get h80 (by decide)
    have h142 := hfk.get h142 (by decide)
    have h143 := hfk.get h143 (by decide)
    have h140 := hfk.get h140 (by decide)
    have h141 := hfk.get h141 (by decide)
    have h144 := hfk.get h144 (by decide)
    have hno := hfk.get hno (by simp only [List.mem_cons, List.not_mem_nil, or_false]; omega)
    have h118 := hfk.get h118 (by decide)
    have h119 := hfk.get h119 (by decide)
    have h120 := hfk.get h120 (by decide)
    have h121 := hfk.get h121 (by decide)
    have h122 := hfk.get h122 (by decide)
    have h123 := hfk.get h123 (by decide)
    have h124 := hfk.get h124 (by decide)
    have h85 := hfk.get h85 (by decide)
    have h117 := hfk.get h117 (by decide)
    have h113 := hfk.get h113 (by decide)
    have hfr := hfr.tr hfk (by decide)
    have hlen := hlk.trans hlen
    have hsl := hsk.trans hsl
    have h138 := hN138
    change ab_W _ _ _ G1 24 [some (vR 80), some (vR no), some (vz s), some (vz fm), some (vz ls), none, none, none, none, none, none, none] [] _
    refine ab_iload_n d_MO_walk_24 rfl ?_
    refine ab_istore d_MO_walk_25 (Nat.le_of_ble_eq_true rfl) (Nat.le_of_ble_eq_true rfl) rfl ?_
    change ab_W _ _ _ G1 27 [some (vR 80), some (vR no), some (vz s), some (vz fm), some (vz ls), some (vz fm), none, none, none, none, none, none] [] _
    refine ab_aload_n d_MO_walk_27 rfl ?_
    refine ab_getf (fs := mof m_thrown m_taped m_length m_out m_wide m_gathered m_sets m_ranges m_nodes m_at m_flags m_fault m_place m_numbered m_depth m_value m_isNot m_least0 m_most0 m_slot m_work m_got m_rowMany m_charAt m_charWide m_trail m_isMatch m_matchGroups m_allFrom m_allBefore m_founds m_pieces m_writtenMany m_templateWide m_tooMuch) f_MO_112 d_MO_walk_28 h80.2.2 rfl ?_
    refine ab_iload_n d_MO_walk_31 rfl ?_
    refine zz_iald d_MO_walk_32 h113 (by omega) ?_
    refine ab_istore d_MO_walk_33 (Nat.le_of_ble_eq_true rfl) (Nat.le_of_ble_eq_true rfl) rfl ?_
    change ab_W _ _ _ G1 35 [some (vR 80), some (vR no), some (vz s), some (vz fm), some (vz ls), some (vz fm), some (vz (A_entry s)), none, none, none, none, none] [] _
    refine zz_iconst d_MO_walk_35 ?_
    refine ab_istore d_MO_walk_36 (Nat.le_of_ble_eq_true rfl) (Nat.le_of_ble_eq_true rfl) rfl ?_
    change ab_W _ _ _ G1 38 [some (vR 80), some (vR no), some (vz s), some (vz fm), some (vz ls), some (vz fm), some (vz (A_entry s)), some (vz 0), none, none, none, none] [] _
    refine y_MO_walk_38 (m_thrown := m_thrown) (m_taped := m_taped) (m_length := m_length) (m_out := m_out) (m_gathered := m_gathered) (m_sets := m_sets) (m_ranges := m_ranges) (m_nodes := m_nodes) (m_at := m_at) (m_flags := m_flags) (m_fault := m_fault) (m_place := m_place) (m_numbered := m_numbered) (m_depth := m_depth) (m_value := m_value) (m_isNot := m_isNot) (m_least0 := m_least0) (m_most0 := m_most0) (m_slot := m_slot) (m_work := m_work) (m_got := m_got) (m_rowMany := m_rowMany) (m_isMatch := m_isMatch) (m_matchGroups := m_matchGroups) (m_allFrom := m_allFrom) (m_allBefore := m_allBefore) (m_founds := m_founds) (m_pieces := m_pieces) (m_writtenMany := m_writtenMany) (m_templateWide := m_templateWide) (m_tooMuch := m_tooMuch) (A_subject := A_subject) (A_stepMany := A_stepMany) (A_step := A_step) (A_next := A_next) (A_more := A_more) (A_classAt := A_classAt) (A_classMany := A_classMany) (A_classLow := A_classLow) (A_classHigh := A_classHigh) (no := no) (lno := lno) (NO := NO) (s := s) (ls := ls) (fm := fm) (hw9 := hw9) (S9 := S9) (G0 := G1) (p := fm) (k := (A_entry s)) (en := 0) (m_wide := m_wide) (m_charAt := m_charAt) (m_charWide := m_charWide) (m_trail := m_trail) (Z := Z) (SP := SP22) (PL := PL) (PT := PT) (TS := TS) (TO := TO) (by omega) (by omega) (by omega) (by omega) (by omega) jst jcl jch jsb (by omega) (by omega) (by omega) (by omega) (by omega) (by omega) hhw (by omega) (Int.toNat (2 * (fr + 1 - fm) - 0) + 1) h80 h138 h142 h143 h140 h141 h144 hno h118 h119 h120 h121 h122 h123 h124 h85 h117 (by omega) (fun _ => ⟨by omega, by omega, hb⟩) jz hq3 jpt jts jto (weB_0 jg0 hq4 (by omega)) fx.rf rfl rfl (by omega) (fun G5 p26 w27 c28 cw29 t210 Z211 SP212 PL213 PT214 TS215 TO216 hN80 hN138 hN142 hN143 hN140 hN141 hN144 hq17 hq18 hq19 hq20 hq21 hq22 hq23 hfk hlk hsk => ?_)
    · have hno := hfk.get hno (by simp only [List.mem_cons, List.not_mem_nil, or_false]; omega)
      have h118 := hfk.get h118 (by decide)
      have h119 := hfk.get h119 (by decide)
      have h120 := hfk.get h120 (by decide)
      have h121 := hfk.get h121 (by decide)
      have h122 := hfk.get h122 (by decide)
      have h123 := hfk.get h123 (by decide)
      have h124 := hfk.get h124 (by decide)
      have h85 := hfk.get h85 (by decide)
      have h117 := hfk.get h117 (by decide)
      have h113 := hfk.get h113 (by decide)
      have hfr := hfr.tr hfk (by decide)
      have hlen := hlk.trans hlen
      have hsl := hsk.trans hsl
      have h80 := hN80
      have h138 := hN138
      have h142 := hN142
      have h143 := hN143
      have h140 := hN140
      have h141 := hN141
      have h144 := hN144
      change ab_W _ _ _ G5 324 [some (vR 80), none, none, some (vz fm), none, some (vz p26), none, none, none, none, none, none] [] _
      refine ab_aload_n d_MO_walk_324 rfl ?_
      refine ab_getf (fs := mof m_thrown m_taped m_length m_out w27 m_gathered m_sets m_ranges m_nodes m_at m_flags m_fault m_place m_numbered m_depth m_value m_isNot m_least0 m_most0 m_slot m_work m_got m_rowMany c28 cw29 t210 m_isMatch m_matchGroups m_allFrom m_allBefore m_founds m_pieces m_writtenMany m_templateWide m_tooMuch) f_MO_190 d_MO_walk_325 h80.2.2 rfl ?_
      refine zz_iconst d_MO_walk_328 ?_
      refine ab_iload_n d_MO_walk_329 rfl ?_
      refine zz_iast d_MO_walk_330 h138 (by omega) (h138.2.1 (by decide)) ?_
      obtain ⟨G24, eG24⟩ : ∃ z : ab_G, z = List.set G5 138 (za 20 (zu SP212 0 fm)) := ⟨_, rfl⟩
      have h80 := h80.keep h138 eG24 (by decide)
      have h142 := h142.keep h138 eG24 (by decide)
      have h143 := h143.keep h138 eG24 (by decide)
      have h140 := h140.keep h138 eG24 (by decide)
      have h141 := h141.keep h138 eG24 (by decide)
      have h144 := h144.keep h138 eG24 (by decide)
      have hno := hno.keep h138 eG24 (by omega)
      have h118 := h118.keep h138 eG24 (by decide)
      have h119 := h119.keep h138 eG24 (by decide)
      have h120 := h120.keep h138 eG24 (by decide)
      have h121 := h121.keep h138 eG24 (by decide)
      have h122 := h122.keep h138 eG24 (by decide)
      have h123 := h123.keep h138 eG24 (by decide)
      have h124 := h124.keep h138 eG24 (by decide)
      have h85 := h85.keep h138 eG24 (by decide)
      have h117 := h117.keep h138 eG24 (by decide)
      have h113 := h113.keep h138 eG24 (by decide)
      have hlen := (z_len eG24).trans hlen
      have hsl := (z_sl h138 eG24 rfl).trans hsl
      have hfr := hfr.wr h138 eG24 (by decide)
      have h138 := h138.kept eG24
      change ab_W _ _ _ (List.set G5 138 (za 20 (zu SP212 0 fm))) 331 [some (vR 80), none, none, some (vz fm), none, some (vz p26), none, none, none, none, none, none] [] _
      rw [← eG24]
      refine ab_aload_n d_MO_walk_331 rfl ?_
      refine ab_getf (fs := mof m_thrown m_taped m_length m_out w27 m_gathered m_sets m_ranges m_nodes m_at m_flags m_fault m_place m_numbered m_depth m_value m_isNot m_least0 m_most0 m_slot m_work m_got m_rowMany c28 cw29 t210 m_isMatch m_matchGroups m_allFrom m_allBefore m_founds m_pieces m_writtenMany m_templateWide m_tooMuch) f_MO_190 d_MO_walk_332 h80.2.2 rfl ?_
      refine zz_iconst d_MO_walk_335 ?_
      refine ab_iload d_MO_walk_336 rfl ?_
      refine zz_iast d_MO_walk_338 h138 (by omega) (h138.2.1 (by decide)) ?_
      obtain ⟨G25, eG25⟩ : ∃ z : ab_G, z = List.set G24 138 (za 20 (zu (zu SP212 0 fm) 1 p26)) := ⟨_, rfl⟩
      have h80 := h80.keep h138 eG25 (by decide)
      have h142 := h142.keep h138 eG25 (by decide)
      have h143 := h143.keep h138 eG25 (by decide)
      have h140 := h140.keep h138 eG25 (by decide)
      have h141 := h141.keep h138 eG25 (by decide)
      have h144 := h144.keep h138 eG25 (by decide)
      have hno := hno.keep h138 eG25 (by omega)
      have h118 := h118.keep h138 eG25 (by decide)
      have h119 := h119.keep h138 eG25 (by decide)
      have h120 := h120.keep h138 eG25 (by decide)
      have h121 := h121.keep h138 eG25 (by decide)
      have h122 := h122.keep h138 eG25 (by decide)
      have h123 := h123.keep h138 eG25 (by decide)
      have h124 := h124.keep h138 eG25 (by decide)
      have h85 := h85.keep h138 eG25 (by decide)
      have h117 := h117.keep h138 eG25 (by decide)
      have h113 := h113.keep h138 eG25 (by decide)
      have hlen := (z_len eG25).trans hlen
      have hsl := (z_sl h138 eG25 rfl).trans hsl
      have hfr := hfr.wr h138 eG25 (by decide)
      have h138 := h138.kept eG25
      change ab_W _ _ _ (List.set G24 138 (za 20 (zu (zu SP212 0 fm) 1 p26))) 339 [some (vR 80), none, none, some (vz fm), none, some (vz p26), none, none, none, none, none, none] [] _
      rw [← eG25]
      refine ab_vret rfl d_MO_walk_339 ?_
      rw [hQ]; exact ⟨p26, _, _, _, _, _, _, _, _, _, _, rfl, hfr, hlen, hsl, h80, h138, h142, h143, h140, h141, h144, (by first | exact (rgs_zu (rgs_zu hq17 (by omega)) (by omega)) | exact rgs_w (rgs_zu (rgs_zu hq17 (by omega)) (by omega)) (by omega)), (by first | exact hq18 | exact rgs_w hq18 (by omega)), (by first | exact hq19 | exact rgs_w hq19 (by omega)), (by first | exact hq20 | exact rgs_w hq20 (by omega)), (by first | exact hq21 | exact rgs_w hq21 (by omega)), (by rw [zu_ne (by omega), zu_self]), (by rw [zu_self]), (by omega), (by exact mch_w hq23)⟩
