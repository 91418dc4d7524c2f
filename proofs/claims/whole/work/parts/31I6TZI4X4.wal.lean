set_option maxRecDepth 100000 in
set_option maxHeartbeats 4000000 in
theorem y_MO_walk_3 {X : ab_X} {d : Nat} {Q : Outcome → ab_G → Prop} {o : Nat → Nat} {G0 : ab_G} {m_thrown : Int} {m_taped : Int} {m_length : Int} {m_out : Int} {m_wide : Int} {m_gathered : Int} {m_sets : Int} {m_ranges : Int} {m_nodes : Int} {m_at : Int} {m_flags : Int} {m_fault : Int} {m_place : Int} {m_numbered : Int} {m_depth : Int} {m_value : Int} {m_isNot : Int} {m_least0 : Int} {m_most0 : Int} {m_slot : Int} {m_work : Int} {m_got : Int} {m_rowMany : Int} {m_charAt : Int} {m_charWide : Int} {m_trail : Int} {m_isMatch : Int} {m_matchGroups : Int} {m_allFrom : Int} {m_allBefore : Int} {m_founds : Int} {m_pieces : Int} {m_writtenMany : Int} {m_templateWide : Int} {m_tooMuch : Int} {no : Nat} {s : Int} {ls : Int} {fm : Int} (n18 : ab_n0 = 18) (hd : 1 ≤ d) : ∀ (mz : Nat) {G : ab_G} {i_ : Int} {SP : Int → Int}, (cc o G 80 280 (ab_ob 12 (mof m_thrown m_taped m_length m_out m_wide m_gathered m_sets m_ranges m_nodes m_at m_flags m_fault m_place m_numbered m_depth m_value m_isNot m_least0 m_most0 m_slot m_work m_got m_rowMany m_charAt m_charWide m_trail m_isMatch m_matchGroups m_allFrom m_allBefore m_founds m_pieces m_writtenMany m_templateWide m_tooMuch))) → (cc o G 138 338 (za 20 SP)) → (0 ≤ i_ ∧ i_ ≤ 20) → (rgs SP 20 (-1) 2000) → (nmS SP i_) → (fx o o [338] G0 G) → (G.length = G0.length) → (ab_slots G = ab_slots G0) → (Int.toNat (20 - i_) < mz) → (∀ (G2 : ab_G) (SP2 : Int → Int), (cc o G2 138 338 (za 20 SP2)) → (rgs SP2 20 (-1) 2000) → (nmS SP2 20) → (fx o o [338] G0 G2) → (G2.length = G0.length) → (ab_slots G2 = ab_slots G0) → ab_W X (ab_pl y_MO_walk b_MO_walk 12 none) d G2 24 [some (vR 80), some (vR no), some (vz s), some (vz fm), some (vz ls), none, none, none, none, none, none, none] [] Q) → ab_W X (ab_pl y_MO_walk b_MO_walk 12 none) d G 3 [some (vR 80), some (vR no), some (vz s), some (vz fm), some (vz ls), some (vz i_), none, none, none, none, none, none] [] Q := by
  intro mz
  induction mz with
  | zero => intro G i_ SP h80 h138 ci jsp jm hfr hlen hsl hm hk0; exact absurd hm (Nat.not_lt_zero _)
  | succ mz ih =>
    intro G i_ SP h80 h138 ci jsp jm hfr hlen hsl hm hk0
    refine ab_iload d_MO_walk_3 rfl ?_
    refine zz_bipush d_MO_walk_5 (by decide) ?_
    refine zz_icmp_ge (tgt := 24) d_MO_walk_7 (by decide) (by omega) (by decide) (fun c1 => ?_) (fun c1 => ?_)
    · refine ab_less (L' := [some (vR 80), some (vR no), some (vz s), some (vz fm), some (vz ls), none, none, none, none, none, none, none]) (fun i v h => by rcases i with _ | _ | _ | _ | _ | _ | _ | _ | _ | _ | _ | _ | i <;> first | exact h | (simp at h)) ?_
      exact hk0 _ _ h138 (by exact jsp) (by exact (show i_ = 20 by omega) ▸ jm) hfr hlen hsl
    · refine ab_aload_n d_MO_walk_10 rfl ?_
      refine ab_getf (fs := mof m_thrown m_taped m_length m_out m_wide m_gathered m_sets m_ranges m_nodes m_at m_flags m_fault m_place m_numbered m_depth m_value m_isNot m_least0 m_most0 m_slot m_work m_got m_rowMany m_charAt m_charWide m_trail m_isMatch m_matchGroups m_allFrom m_allBefore m_founds m_pieces m_writtenMany m_templateWide m_tooMuch) f_MO_190 d_MO_walk_11 h80.2.2 rfl ?_
      refine ab_iload d_MO_walk_14 rfl ?_
      refine zz_iconst d_MO_walk_16 ?_
      refine zz_iast d_MO_walk_17 h138 (by omega) (h138.2.1 (by decide)) ?_
      obtain ⟨G2, eG2⟩ : ∃ z : ab_G, z = List.set G 138 (za 20 (zu SP i_ (-1))) := ⟨_, rfl⟩
      have h80 := h80.keep h138 eG2 (by decide)
      have hlen := (z_len eG2).trans hlen
      have hsl := (z_sl h138 eG2 rfl).trans hsl
      have hfr := hfr.wr h138 eG2 (by decide)
      have h138 := h138.kept eG2
      change ab_W _ _ _ (List.set G 138 (za 20 (zu SP i_ (-1)))) 18 [some (vR 80), some (vR no), some (vz s), some (vz fm), some (vz ls), some (vz i_), none, none, none, none, none, none] [] _
      rw [← eG2]
      refine zz_iinc d_MO_walk_18 rfl (Nat.le_of_ble_eq_true rfl) (Nat.le_of_ble_eq_true rfl) rfl ?_
      change ab_W _ _ _ G2 21 [some (vR 80), some (vR no), some (vz s), some (vz fm), some (vz ls), some (vz (i_ + 1)), none, none, none, none, none, none] [] _
      refine ab_goto (tgt := 3) d_MO_walk_21 (by decide) ?_
      exact ih (i_ := (i_ + 1)) (SP := (zu SP i_ (-1))) h80 h138 (by omega) (rgs_zu jsp (by omega)) (nmS_s jm) hfr hlen hsl (by omega) hk0
set_option maxRecDepth 100000 in
set_option maxHeartbeats 4000000 in
theorem y_MO_walk_75 {X : ab_X} {d : Nat} {Q : Outcome → ab_G → Prop} {o : Nat → Nat} {G0 : ab_G} {m_thrown : Int} {m_taped : Int} {m_length : Int} {m_out : Int} {m_wide : Int} {m_gathered : Int} {m_sets : Int} {m_ranges : Int} {m_nodes : Int} {m_at : Int} {m_flags : Int} {m_fault : Int} {m_place : Int} {m_numbered : Int} {m_depth : Int} {m_value : Int} {m_isNot : Int} {m_least0 : Int} {m_most0 : Int} {m_slot : Int} {m_work : Int} {m_got : Int} {m_rowMany : Int} {m_charAt : Int} {m_charWide : Int} {m_trail : Int} {m_isMatch : Int} {m_matchGroups : Int} {m_allFrom : Int} {m_allBefore : Int} {m_founds : Int} {m_pieces : Int} {m_writtenMany : Int} {m_templateWide : Int} {m_tooMuch : Int} {A_stepMany : Int → Int} {no : Nat} {s : Int} {n : Int} {p : Int} {k : Int} {m : Int} {ls : Int} {en : Int} {fm : Int} (n18 : ab_n0 = 18) (cs2 : 0 ≤ s ∧ s ≤ 5 ∧ A_stepMany s = n ∧ 0 ≤ n ∧ n ≤ 12500) (hd : 1 ≤ d) : ∀ (mz : Nat) {G : ab_G} {i_ : Int} {Z : Int → Int}, (cc o G 80 280 (ab_ob 12 (mof m_thrown m_taped m_length m_out m_wide m_gathered m_sets m_ranges m_nodes m_at m_flags m_fault m_place m_numbered m_depth m_value m_isNot m_least0 m_most0 m_slot m_work m_got m_rowMany m_charAt m_charWide m_trail m_isMatch m_matchGroups m_allFrom m_allBefore m_founds m_pieces m_writtenMany m_templateWide m_tooMuch))) → (cc o G 144 344 (zb 12500 Z)) → (cc o G 117 317 (za 6 A_stepMany)) → (0 ≤ i_ ∧ i_ ≤ n) → (rgs Z 12500 0 1) → (nze Z i_) → (fx o o [344] G0 G) → (G.length = G0.length) → (ab_slots G = ab_slots G0) → (Int.toNat (n - i_) < mz) → (∀ (G2 : ab_G) (Z2 : Int → Int), (cc o G2 144 344 (zb 12500 Z2)) → (rgs Z2 12500 0 1) → (nze Z2 n) → (fx o o [344] G0 G2) → (G2.length = G0.length) → (ab_slots G2 = ab_slots G0) → ab_W X (ab_pl y_MO_walk b_MO_walk 12 none) d G2 100 [some (vR 80), some (vR no), some (vz s), some (vz fm), some (vz ls), some (vz p), some (vz k), some (vz en), some (vz m), none, none, none] [] Q) → ab_W X (ab_pl y_MO_walk b_MO_walk 12 none) d G 75 [some (vR 80), some (vR no), some (vz s), some (vz fm), some (vz ls), some (vz p), some (vz k), some (vz en), some (vz m), some (vz i_), none, none] [] Q := by
  intro mz
  induction mz with
  | zero => intro G i_ Z h80 h144 h117 ci jz jno hfr hlen hsl hm hk0; exact absurd hm (Nat.not_lt_zero _)
  | succ mz ih =>
    intro G i_ Z h80 h144 h117 ci jz jno hfr hlen hsl hm hk0
    refine ab_iload d_MO_walk_75 rfl ?_
    refine ab_aload_n d_MO_walk_77 rfl ?_
    refine ab_getf (fs := mof m_thrown m_taped m_length m_out m_wide m_gathered m_sets m_ranges m_nodes m_at m_flags m_fault m_place m_numbered m_depth m_value m_isNot m_least0 m_most0 m_slot m_work m_got m_rowMany m_charAt m_charWide m_trail m_isMatch m_matchGroups m_allFrom m_allBefore m_founds m_pieces m_writtenMany m_templateWide m_tooMuch) f_MO_124 d_MO_walk_78 h80.2.2 rfl ?_
    refine ab_iload_n d_MO_walk_81 rfl ?_
    refine zz_iald d_MO_walk_82 h117 (by omega) ?_
    refine zz_icmp_ge (tgt := 100) d_MO_walk_83 (by decide) (by omega) (by omega) (fun c1 => ?_) (fun c1 => ?_)
    · refine ab_less (L' := [some (vR 80), some (vR no), some (vz s), some (vz fm), some (vz ls), some (vz p), some (vz k), some (vz en), some (vz m), none, none, none]) (fun i v h => by rcases i with _ | _ | _ | _ | _ | _ | _ | _ | _ | _ | _ | _ | i <;> first | exact h | (simp at h)) ?_
      exact hk0 _ _ h144 (by exact jz) (by exact (show i_ = n by omega) ▸ jno) hfr hlen hsl
    · refine ab_aload_n d_MO_walk_86 rfl ?_
      refine ab_getf (fs := mof m_thrown m_taped m_length m_out m_wide m_gathered m_sets m_ranges m_nodes m_at m_flags m_fault m_place m_numbered m_depth m_value m_isNot m_least0 m_most0 m_slot m_work m_got m_rowMany m_charAt m_charWide m_trail m_isMatch m_matchGroups m_allFrom m_allBefore m_founds m_pieces m_writtenMany m_templateWide m_tooMuch) f_MO_208 d_MO_walk_87 h80.2.2 rfl ?_
      refine ab_iload d_MO_walk_90 rfl ?_
      refine zz_iconst d_MO_walk_92 ?_
      refine zz_zast d_MO_walk_93 h144 (by omega) (by decide) (h144.2.1 (by decide)) ?_
      obtain ⟨G2, eG2⟩ : ∃ z : ab_G, z = List.set G 144 (zb 12500 (zu Z i_ 0)) := ⟨_, rfl⟩
      have h80 := h80.keep h144 eG2 (by decide)
      have h117 := h117.keep h144 eG2 (by decide)
      have hlen := (z_len eG2).trans hlen
      have hsl := (z_sl h144 eG2 rfl).trans hsl
      have hfr := hfr.wr h144 eG2 (by decide)
      have h144 := h144.kept eG2
      change ab_W _ _ _ (List.set G 144 (zb 12500 (zu Z i_ 0))) 94 [some (vR 80), some (vR no), some (vz s), some (vz fm), some (vz ls), some (vz p), some (vz k), some (vz en), some (vz m), some (vz i_), none, none] [] _
      rw [← eG2]
      refine zz_iinc d_MO_walk_94 rfl (Nat.le_of_ble_eq_true rfl) (Nat.le_of_ble_eq_true rfl) rfl ?_
      change ab_W _ _ _ G2 97 [some (vR 80), some (vR no), some (vz s), some (vz fm), some (vz ls), some (vz p), some (vz k), some (vz en), some (vz m), some (vz (i_ + 1)), none, none] [] _
      refine ab_goto (tgt := 75) d_MO_walk_97 (by decide) ?_
      exact ih (i_ := (i_ + 1)) (Z := (zu Z i_ 0)) h80 h144 h117 (by omega) (rgs_zu jz (by omega)) (nze_s jno) hfr hlen hsl (by omega) hk0
set_option maxRecDepth 100000 in
set_option maxHeartbeats 4000000 in
theorem y_MO_walk_103 {X : ab_X} {d : Nat} {Q : Outcome → ab_G → Prop} {o : Nat → Nat} {G0 : ab_G} {m_thrown : Int} {m_taped : Int} {m_length : Int} {m_out : Int} {m_wide : Int} {m_gathered : Int} {m_sets : Int} {m_ranges : Int} {m_nodes : Int} {m_at : Int} {m_flags : Int} {m_fault : Int} {m_place : Int} {m_numbered : Int} {m_depth : Int} {m_value : Int} {m_isNot : Int} {m_least0 : Int} {m_most0 : Int} {m_slot : Int} {m_work : Int} {m_got : Int} {m_rowMany : Int} {m_charAt : Int} {m_charWide : Int} {m_isMatch : Int} {m_matchGroups : Int} {m_allFrom : Int} {m_allBefore : Int} {m_founds : Int} {m_pieces : Int} {m_writtenMany : Int} {m_templateWide : Int} {m_tooMuch : Int} {A_subject : Int → Int} {A_step : Int → Int} {A_next : Int → Int} {A_more : Int → Int} {A_classAt : Int → Int} {A_classMany : Int → Int} {A_classLow : Int → Int} {A_classHigh : Int → Int} {no : Nat} {lno : Nat} {NO : Int → Int} {s : Int} {fr : Int} {to : Int} {al : Int} {n : Int} {ls : Int} {k0 : Int} {p0 : Int} {fm : Int} {hw9 : Int} {S9 : Option (Int × Gr)} (n18 : ab_n0 = 18) (cno : 334 ≤ lno ∧ lno ≤ 336) (cle : 0 ≤ m_length ∧ m_length ≤ 2000) (cs : 0 ≤ s ∧ s ≤ 5 ∧ 0 ≤ n ∧ n ≤ 12500 ∧ 0 ≤ al ∧ al ≤ 1) (jsg : sgood A_step A_next A_more A_classAt A_classMany (12500 * s) n) (jst : rgs A_step 75000 0 6) (jcl : rgs A_classLow 3600 0 1114111) (jch : rgs A_classHigh 3600 0 1114111) (jsb : rgs A_subject 2000 0 255) (hl1 : ls < 0 → fr = m_length ∧ al = 0) (hl2 : 0 ≤ ls → ls = fr ∧ al = 1) (cls : -1 ≤ ls ∧ fr ≤ m_length ∧ 0 ≤ to ∧ to ≤ fr) (cp0 : to ≤ p0 ∧ p0 ≤ fr ∧ 0 ≤ k0 ∧ k0 < n) (hb0 : nbit NO p0 k0) (hnr : nrows A_step A_next A_more A_classAt A_classMany A_classLow A_classHigh A_subject NO m_length (12500 * s) n fr al (to - 1)) (cch : -1 ≤ m_charAt ∧ m_charAt ≤ 1114111 ∧ 1 ≤ m_charWide ∧ m_charWide ≤ 4) (clk : 0 ≤ m_charAt → p0 + m_charWide ≤ m_length) (hmc : mchr A_subject m_length p0 m_charAt m_charWide) (hnt : ntK A_step A_next A_more A_classAt A_classMany A_classLow A_classHigh A_subject NO m_length (12500 * s) n fr al to) (hhw : hwA al hw9) (hd : 5 ≤ d) : ∀ (mz : Nat) {G : ab_G} {p : Int} {k : Int} {en : Int} {m : Int} {go_ : Int} {m_trail : Int} {Z : Int → Int} {SP : Int → Int} {PL : Int → Int} {PT : Int → Int} {TS : Int → Int} {TO : Int → Int}, (cc o G 80 280 (ab_ob 12 (mof m_thrown m_taped m_length m_out m_wide m_gathered m_sets m_ranges m_nodes m_at m_flags m_fault m_place m_numbered m_depth m_value m_isNot m_least0 m_most0 m_slot m_work m_got m_rowMany m_charAt m_charWide m_trail m_isMatch m_matchGroups m_allFrom m_allBefore m_founds m_pieces m_writtenMany m_templateWide m_tooMuch))) → (cc o G 138 338 (za 20 SP)) → (cc o G 142 342 (za 25000 PL)) → (cc o G 143 343 (za 25000 PT)) → (cc o G 140 340 (za 12500 TS)) → (cc o G 141 341 (za 12500 TO)) → (cc o G 144 344 (zb 12500 Z)) → (cc o G no lno (zl 392196 NO)) → (cc o G 118 318 (za 75000 A_step)) → (cc o G 119 319 (za 75000 A_next)) → (cc o G 120 320 (za 75000 A_more)) → (cc o G 121 321 (za 75000 A_classAt)) → (cc o G 122 322 (za 75000 A_classMany)) → (cc o G 123 323 (za 3600 A_classLow)) → (cc o G 124 324 (za 3600 A_classHigh)) → (cc o G 85 285 (za 2000 A_subject)) → (0 ≤ m ∧ 0 ≤ go_ ∧ go_ ≤ 1 ∧ 0 ≤ en ∧ en ≤ 1 ∧ 0 ≤ m_trail ∧ m_trail + nz Z n ≤ n ∧ m + nz Z n ≤ n + 1) → (rgs Z 12500 0 1) → (rgs SP 20 (-1) 2000) → (rgs PT 25000 0 12500) → (rgs TS 12500 0 19) → (rgs TO 12500 (-1) 2000) → (rgs PL m 0 (n - 1)) → (go_ = 0 → en = 0 → p = p0 ∧ dfs A_step A_next A_more A_classAt A_classMany A_classLow A_classHigh A_subject NO m_length (12500 * s) n fr al p0 Z PL m k0) → (go_ = 1 → p0 < p ∧ p ≤ fr ∧ 0 ≤ k ∧ k < n ∧ nbit NO p k ∧ en = 0) → (en = 1 → p = p0 ∧ go_ = 0) → (wlB A_step A_next A_more A_classAt A_classMany A_classLow A_classHigh A_subject NO m_length (12500 * s) n hw9 fr p0 Z PL PT TS TO SP m_trail m p k go_ en S9) → (fx o o [280, 338, 342, 343, 340, 341, 344] G0 G) → (G.length = G0.length) → (ab_slots G = ab_slots G0) → (Int.toNat (2 * nz Z n + m) < mz) → (∀ (G2 : ab_G) (p2 : Int) (k2 : Int) (e2 : Int) (t2 : Int) (Z2 : Int → Int) (SP2 : Int → Int) (PL2 : Int → Int) (PT2 : Int → Int) (TS2 : Int → Int) (TO2 : Int → Int), (cc o G2 80 280 (ab_ob 12 (mof m_thrown m_taped m_length m_out m_wide m_gathered m_sets m_ranges m_nodes m_at m_flags m_fault m_place m_numbered m_depth m_value m_isNot m_least0 m_most0 m_slot m_work m_got m_rowMany m_charAt m_charWide t2 m_isMatch m_matchGroups m_allFrom m_allBefore m_founds m_pieces m_writtenMany m_templateWide m_tooMuch))) → (cc o G2 138 338 (za 20 SP2)) → (cc o G2 142 342 (za 25000 PL2)) → (cc o G2 143 343 (za 25000 PT2)) → (cc o G2 140 340 (za 12500 TS2)) → (cc o G2 141 341 (za 12500 TO2)) → (cc o G2 144 344 (zb 12500 Z2)) → (rgs SP2 20 (-1) 2000) → (rgs PT2 25000 0 12500) → (rgs TS2 12500 0 19) → (rgs TO2 12500 (-1) 2000) → (rgs Z2 12500 0 1) → ((e2 = 1 ∧ p2 = p0) ∨ (e2 = 0 ∧ p0 < p2 ∧ p2 ≤ fr ∧ 0 ≤ k2 ∧ k2 < n ∧ nbit NO p2 k2)) → (weB A_step A_next A_more A_classAt A_classMany A_classLow A_classHigh A_subject m_length (12500 * s) hw9 fr k2 p2 SP2 e2 S9) → (fx o o [280, 338, 342, 343, 340, 341, 344] G0 G2) → (G2.length = G0.length) → (ab_slots G2 = ab_slots G0) → ab_W X (ab_pl y_MO_walk b_MO_walk 12 none) d G2 321 [some (vR 80), some (vR no), some (vz s), some (vz fm), some (vz ls), some (vz p2), some (vz k2), some (vz e2), none, none, none, none] [] Q) → ab_W X (ab_pl y_MO_walk b_MO_walk 12 none) d G 103 [some (vR 80), some (vR no), some (vz s), some (vz fm), some (vz ls), some (vz p), some (vz k), some (vz en), some (vz m), some (vz go_), none, none] [] Q := by
  intro mz
  induction mz with
  | zero => intro G p k en m go_ m_trail Z SP PL PT TS TO h80 h138 h142 h143 h140 h141 h144 hno h118 h119 h120 h121 h122 h123 h124 h85 ci jz jsp jpt jts jto jpl jd jg2 je jK hfr hlen hsl hm hk0; exact absurd hm (Nat.not_lt_zero _)
  | succ mz ih =>
    intro G p k en m go_ m_trail Z SP PL PT TS TO h80 h138 h142 h143 h140 h141 h144 hno h118 h119 h120 h121 h122 h123 h124 h85 ci jz jsp jpt jts jto jpl jd jg2 je jK hfr hlen hsl hm hk0
    have hnz_ := nz_in (Z := Z) (n := n) (by omega)
    refine ab_iload d_MO_walk_103 rfl ?_
    refine zz_if_ne (tgt := 321) d_MO_walk_105 (by decide) (by omega) (fun c1 => ?_) (fun c1 => ?_)
    · refine ab_less (L' := [some (vR 80), some (vR no), some (vz s), some (vz fm), some (vz ls), some (vz p), some (vz k), some (vz en), none, none, none, none]) (fun i v h => by rcases i with _ | _ | _ | _ | _ | _ | _ | _ | _ | _ | _ | _ | i <;> first | exact h | (simp at h)) ?_
      exact hk0 _ _ _ _ _ _ _ _ _ _ _ h80 h138 h142 h143 h140 h141 h144 (by exact jsp) (by exact jpt) (by exact jts) (by exact jto) (by exact jz) (by by_cases q1 : en = 1; (have z := je q1; exact Or.inl ⟨q1, z.1⟩); (by_cases q2 : go_ = 1; (have z := jg2 q2; exact Or.inr ⟨by omega, z.1, z.2.1, z.2.2.1, z.2.2.2.1, z.2.2.2.2.1⟩); (exfalso; have z := jd (by omega) (by omega); have y := z.2; rw [show m = 0 by omega] at y; exact dfs_end y (hnr p0 (by omega) (by omega)) hb0 (by omega) jsg))) (by by_cases q1 : en = 1; (have z := je q1; exact ⟨fun _ => by rw [z.1]; exact jK.2.2 q1, fun q => by omega⟩); (by_cases q2 : go_ = 1; (exact ⟨fun q => absurd q q1, fun _ => jK.2.1 q2⟩); (exfalso; have z := jd (by omega) (by omega); have y := z.2; rw [show m = 0 by omega] at y; exact dfs_end y (hnr p0 (by omega) (by omega)) hb0 (by omega) jsg))) hfr hlen hsl
    · refine ab_iload d_MO_walk_108 rfl ?_
      refine zz_if_ne (tgt := 321) d_MO_walk_110 (by decide) (by omega) (fun c2 => ?_) (fun c2 => ?_)
      · refine ab_less (L' := [some (vR 80), some (vR no), some (vz s), some (vz fm), some (vz ls), some (vz p), some (vz k), some (vz en), none, none, none, none]) (fun i v h => by rcases i with _ | _ | _ | _ | _ | _ | _ | _ | _ | _ | _ | _ | i <;> first | exact h | (simp at h)) ?_
        exact hk0 _ _ _ _ _ _ _ _ _ _ _ h80 h138 h142 h143 h140 h141 h144 (by exact jsp) (by exact jpt) (by exact jts) (by exact jto) (by exact jz) (by by_cases q1 : en = 1; (have z := je q1; exact Or.inl ⟨q1, z.1⟩); (by_cases q2 : go_ = 1; (have z := jg2 q2; exact Or.inr ⟨by omega, z.1, z.2.1, z.2.2.1, z.2.2.2.1, z.2.2.2.2.1⟩); (exfalso; have z := jd (by omega) (by omega); have y := z.2; rw [show m = 0 by omega] at y; exact dfs_end y (hnr p0 (by omega) (by omega)) hb0 (by omega) jsg))) (by by_cases q1 : en = 1; (have z := je q1; exact ⟨fun _ => by rw [z.1]; exact jK.2.2 q1, fun q => by omega⟩); (by_cases q2 : go_ = 1; (exact ⟨fun q => absurd q q1, fun _ => jK.2.1 q2⟩); (exfalso; have z := jd (by omega) (by omega); have y := z.2; rw [show m = 0 by omega] at y; exact dfs_end y (hnr p0 (by omega) (by omega)) hb0 (by omega) jsg))) hfr hlen hsl
      · refine ab_iload d_MO_walk_113 rfl ?_
        refine zz_if_le (tgt := 321) d_MO_walk_115 (by decide) (by omega) (fun c3 => ?_) (fun c3 => ?_)
        · refine ab_less (L' := [some (vR 80), some (vR no), some (vz s), some (vz fm), some (vz ls), some (vz p), some (vz k), some (vz en), none, none, none, none]) (fun i v h => by rcases i with _ | _ | _ | _ | _ | _ | _ | _ | _ | _ | _ | _ | i <;> first | exact h | (simp at h)) ?_
          exact hk0 _ _ _ _ _ _ _ _ _ _ _ h80 h138 h142 h143 h140 h141 h144 (by exact jsp) (by exact jpt) (by exact jts) (by exact jto) (by exact jz) (by by_cases q1 : en = 1; (have z := je q1; exact Or.inl ⟨q1, z.1⟩); (by_cases q2 : go_ = 1; (have z := jg2 q2; exact Or.inr ⟨by omega, z.1, z.2.1, z.2.2.1, z.2.2.2.1, z.2.2.2.2.1⟩); (exfalso; have z := jd (by omega) (by omega); have y := z.2; rw [show m = 0 by omega] at y; exact dfs_end y (hnr p0 (by omega) (by omega)) hb0 (by omega) jsg))) (by by_cases q1 : en = 1; (have z := je q1; exact ⟨fun _ => by rw [z.1]; exact jK.2.2 q1, fun q => by omega⟩); (by_cases q2 : go_ = 1; (exact ⟨fun q => absurd q q1, fun _ => jK.2.1 q2⟩); (exfalso; have z := jd (by omega) (by omega); have y := z.2; rw [show m = 0 by omega] at y; exact dfs_end y (hnr p0 (by omega) (by omega)) hb0 (by omega) jsg))) hfr hlen hsl
        · obtain ⟨hpp, hdf⟩ := jd (by omega) (by omega)
          have hwl_ := jK.1 (by omega) (by omega)
          refine zz_iinc d_MO_walk_118 rfl (Nat.le_of_ble_eq_true rfl) (Nat.le_of_ble_eq_true rfl) rfl ?_
          change ab_W _ _ _ G 121 [some (vR 80), some (vR no), some (vz s), some (vz fm), some (vz ls), some (vz p), some (vz k), some (vz en), some (vz (m + (-1))), some (vz go_), none, none] [] _
          refine ab_aload_n d_MO_walk_121 rfl ?_
          refine ab_aload_n d_MO_walk_122 rfl ?_
          refine ab_getf (fs := mof m_thrown m_taped m_length m_out m_wide m_gathered m_sets m_ranges m_nodes m_at m_flags m_fault m_place m_numbered m_depth m_value m_isNot m_least0 m_most0 m_slot m_work m_got m_rowMany m_charAt m_charWide m_trail m_isMatch m_matchGroups m_allFrom m_allBefore m_founds m_pieces m_writtenMany m_templateWide m_tooMuch) f_MO_205 d_MO_walk_123 h80.2.2 rfl ?_
          refine ab_iload d_MO_walk_126 rfl ?_
          refine zz_iald d_MO_walk_128 h143 (by omega) ?_
          have hq4 := jpt (m + (-1)) (by omega) (by omega)
          refine ab_callV (d' := d - 1) (as := [vz (PT (m + (-1)))]) (st := []) (r := _) (z_MO_undo (o := o) (m_thrown := m_thrown) (m_taped := m_taped) (m_length := m_length) (m_out := m_out) (m_wide := m_wide) (m_gathered := m_gathered) (m_sets := m_sets) (m_ranges := m_ranges) (m_nodes := m_nodes) (m_at := m_at) (m_flags := m_flags) (m_fault := m_fault) (m_place := m_place) (m_numbered := m_numbered) (m_depth := m_depth) (m_value := m_value) (m_isNot := m_isNot) (m_least0 := m_least0) (m_most0 := m_most0) (m_slot := m_slot) (m_work := m_work) (m_got := m_got) (m_rowMany := m_rowMany) (m_charAt := m_charAt) (m_charWide := m_charWide) (m_trail := m_trail) (m_isMatch := m_isMatch) (m_matchGroups := m_matchGroups) (m_allFrom := m_allFrom) (m_allBefore := m_allBefore) (m_founds := m_founds) (m_pieces := m_pieces) (m_writtenMany := m_writtenMany) (m_templateWide := m_templateWide) (m_tooMuch := m_tooMuch) (SP := SP) (TS := TS) (TO := TO) (to := (PT (m + (-1)))) h80 h138 h140 h141 (by omega) jts jto (by omega) (by omega) jsp (by omega)) (fun oc G2 h => by rcases h with ⟨_, _, h, _⟩ <;> exact ⟨_, h⟩) (by omega) m_MO_undo ml_MO_543 im_MO_undo se_MO_undo c_MO h80.2.2 (Nat.le_of_ble_eq_true rfl) d_MO_walk_129 rfl ?_
          intro v G5 hq
          rcases hq with ⟨t26, SP27, hv, hfk, hlk, hsk, hN80, hN138, hq8, hq9, hq10⟩
          cases hv
          have h142 := hfk.get h142 (by decide)
          have h143 := hfk.get h143 (by decide)
          have h140 := hfk.get h140 (by decide)
          have h141 := hfk.get h141 (by decide)
          have h144 := hfk.get h144 (by decide)
          have hno := hfk.get hno (by simp only [List.mem_cons, List.not_mem_nil, or_false]; omega)
          have h118 := hfk.get h118 (by decide)
          have h119 := hfk.get h119 (by decide)
          have h120 := hfk.get h120 (by decide)
          have h121 := hfk.get h121 (by decide)
          have h122 := hfk.get h122 (by decide)
          have h123 := hfk.get h123 (by decide)
          have h124 := hfk.get h124 (by decide)
          have h85 := hfk.get h85 (by decide)
          have hfr := hfr.tr hfk (by decide)
          have hlen := hlk.trans hlen
          have hsl := hsk.trans hsl
          have h80 := hN80
          have h138 := hN138
          change ab_W _ _ _ G5 132 [some (vR 80), some (vR no), some (vz s), some (vz fm), some (vz ls), some (vz p), some (vz k), some (vz en), some (vz (m + (-1))), some (vz go_), none, none] [] _
          refine ab_aload_n d_MO_walk_132 rfl ?_
          refine ab_getf (fs := mof m_thrown m_taped m_length m_out m_wide m_gathered m_sets m_ranges m_nodes m_at m_flags m_fault m_place m_numbered m_depth m_value m_isNot m_least0 m_most0 m_slot m_work m_got m_rowMany m_charAt m_charWide t26 m_isMatch m_matchGroups m_allFrom m_allBefore m_founds m_pieces m_writtenMany m_templateWide m_tooMuch) f_MO_202 d_MO_walk_133 h80.2.2 rfl ?_
          refine ab_iload d_MO_walk_136 rfl ?_
          refine zz_iald d_MO_walk_138 h142 (by omega) ?_
          have hpx_ := jpl (m - 1) (by omega) (by omega)
          obtain ⟨x, hx_⟩ : ∃ z : Int, z = PL (m - 1) := ⟨_, rfl⟩
          have hx2_ : PL (m + -1) = x := by rw [show m + -1 = m - 1 by omega]; exact hx_.symm
          rw [hx2_]
          rw [← hx_] at hpx_
          change ab_W _ _ _ G5 139 [some (vR 80), some (vR no), some (vz s), some (vz fm), some (vz ls), some (vz p), some (vz k), some (vz en), some (vz (m + (-1))), some (vz go_), none, none] [vz x] _
          have hzx_ := jz x (by omega) (by omega)
          have hcu_ := hwl_.pop (by omega) (by have t_ := hq10; first | exact t_ | (rw [show m + -1 = m - 1 by omega] at t_; exact t_)) hx_.symm
          refine ab_istore d_MO_walk_139 (Nat.le_of_ble_eq_true rfl) (Nat.le_of_ble_eq_true rfl) rfl ?_
          change ab_W _ _ _ G5 141 [some (vR 80), some (vR no), some (vz s), some (vz fm), some (vz ls), some (vz p), some (vz x), some (vz en), some (vz (m + (-1))), some (vz go_), none, none] [] _
          refine ab_aload_n d_MO_walk_141 rfl ?_
          refine ab_getf (fs := mof m_thrown m_taped m_length m_out m_wide m_gathered m_sets m_ranges m_nodes m_at m_flags m_fault m_place m_numbered m_depth m_value m_isNot m_least0 m_most0 m_slot m_work m_got m_rowMany m_charAt m_charWide t26 m_isMatch m_matchGroups m_allFrom m_allBefore m_founds m_pieces m_writtenMany m_templateWide m_tooMuch) f_MO_208 d_MO_walk_142 h80.2.2 rfl ?_
          refine ab_iload d_MO_walk_145 rfl ?_
          refine zz_zald d_MO_walk_147 h144 (by omega) ?_
          have hq11 := jz x (by omega) (by omega)
          refine zz_if_eq (tgt := 154) d_MO_walk_148 (by decide) (by omega) (fun c12 => ?_) (fun c12 => ?_)
          · have hzs_ := nz_set (Z := Z) (k := x) (n := n) (by omega) (by omega)
            have hnz2_ := nz_in (Z := zu Z x 1) (n := n) (by omega)
            have hsg_ := jsg x (by omega) (by omega)
            refine ab_aload_n d_MO_walk_154 rfl ?_
            refine ab_getf (fs := mof m_thrown m_taped m_length m_out m_wide m_gathered m_sets m_ranges m_nodes m_at m_flags m_fault m_place m_numbered m_depth m_value m_isNot m_least0 m_most0 m_slot m_work m_got m_rowMany m_charAt m_charWide t26 m_isMatch m_matchGroups m_allFrom m_allBefore m_founds m_pieces m_writtenMany m_templateWide m_tooMuch) f_MO_208 d_MO_walk_155 h80.2.2 rfl ?_
            refine ab_iload d_MO_walk_158 rfl ?_
            refine zz_iconst d_MO_walk_160 ?_
            refine zz_zast d_MO_walk_161 h144 (by omega) (by decide) (h144.2.1 (by decide)) ?_
            obtain ⟨G13, eG13⟩ : ∃ z : ab_G, z = List.set G5 144 (zb 12500 (zu Z x 1)) := ⟨_, rfl⟩
            have h80 := h80.keep h144 eG13 (by decide)
            have h138 := h138.keep h144 eG13 (by decide)
            have h142 := h142.keep h144 eG13 (by decide)
            have h143 := h143.keep h144 eG13 (by decide)
            have h140 := h140.keep h144 eG13 (by decide)
            have h141 := h141.keep h144 eG13 (by decide)
            have hno := hno.keep h144 eG13 (by omega)
            have h118 := h118.keep h144 eG13 (by decide)
            have h119 := h119.keep h144 eG13 (by decide)
            have h120 := h120.keep h144 eG13 (by decide)
            have h121 := h121.keep h144 eG13 (by decide)
            have h122 := h122.keep h144 eG13 (by decide)
            have h123 := h123.keep h144 eG13 (by decide)
            have h124 := h124.keep h144 eG13 (by decide)
            have h85 := h85.keep h144 eG13 (by decide)
            have hlen := (z_len eG13).trans hlen
            have hsl := (z_sl h144 eG13 rfl).trans hsl
            have hfr := hfr.wr h144 eG13 (by decide)
            have h144 := h144.kept eG13
            change ab_W _ _ _ (List.set G5 144 (zb 12500 (zu Z x 1))) 162 [some (vR 80), some (vR no), some (vz s), some (vz fm), some (vz ls), some (vz p), some (vz x), some (vz en), some (vz (m + (-1))), some (vz go_), none, none] [] _
            rw [← eG13]
            refine zz_sipush d_MO_walk_162 (by decide) ?_
            refine ab_iload_n d_MO_walk_165 rfl ?_
            refine zz_imul d_MO_walk_166 ?_
            refine ab_iload d_MO_walk_167 rfl ?_
            refine zz_iadd d_MO_walk_169 ?_
            refine ab_istore d_MO_walk_170 (Nat.le_of_ble_eq_true rfl) (Nat.le_of_ble_eq_true rfl) rfl ?_
            change ab_W _ _ _ G13 172 [some (vR 80), some (vR no), some (vz s), some (vz fm), some (vz ls), some (vz p), some (vz x), some (vz en), some (vz (m + (-1))), some (vz go_), some (vz ((12500 * s) + x)), none] [] _
            refine ab_aload_n d_MO_walk_172 rfl ?_
            refine ab_iload d_MO_walk_173 rfl ?_
            refine ab_iload d_MO_walk_175 rfl ?_
            refine ab_callV (d' := d - 1) (as := [vz ((12500 * s) + x), vz p]) (st := []) (r := _) (z_MO_taken (o := o) (m_thrown := m_thrown) (m_taped := m_taped) (m_length := m_length) (m_out := m_out) (m_wide := m_wide) (m_gathered := m_gathered) (m_sets := m_sets) (m_ranges := m_ranges) (m_nodes := m_nodes) (m_at := m_at) (m_flags := m_flags) (m_fault := m_fault) (m_place := m_place) (m_numbered := m_numbered) (m_depth := m_depth) (m_value := m_value) (m_isNot := m_isNot) (m_least0 := m_least0) (m_most0 := m_most0) (m_slot := m_slot) (m_work := m_work) (m_got := m_got) (m_rowMany := m_rowMany) (m_charAt := m_charAt) (m_charWide := m_charWide) (m_trail := t26) (m_isMatch := m_isMatch) (m_matchGroups := m_matchGroups) (m_allFrom := m_allFrom) (m_allBefore := m_allBefore) (m_founds := m_founds) (m_pieces := m_pieces) (m_writtenMany := m_writtenMany) (m_templateWide := m_templateWide) (m_tooMuch := m_tooMuch) (A_step := A_step) (A_classAt := A_classAt) (A_classMany := A_classMany) (A_classLow := A_classLow) (A_classHigh := A_classHigh) (k := ((12500 * s) + x)) (p := p) h80 h118 h121 h122 h123 h124 (by omega) (by omega) jst jcl jch (jsg x (by omega) (by omega)).2.2.2.2.2 (by omega) (by omega) (by omega)) (fun oc G2 h => by rcases h with ⟨_, h, _⟩ <;> exact ⟨_, h⟩) (by omega) m_MO_taken ml_MO_525 im_MO_taken se_MO_taken c_MO h80.2.2 (Nat.le_of_ble_eq_true rfl) d_MO_walk_177 rfl ?_
            intro v G14 hq
            rcases hq with ⟨v15, hv, hfk, hlk, hsk, hq16, hq17, hq18⟩
            cases hv
            have h80 := hfk.get h80 (by decide)
            have h138 := hfk.get h138 (by decide)
            have h142 := hfk.get h142 (by decide)
            have h143 := hfk.get h143 (by decide)
            have h140 := hfk.get h140 (by decide)
            have h141 := hfk.get h141 (by decide)
            have h144 := hfk.get h144 (by decide)
            have hno := hfk.get hno (by simp)
            have h118 := hfk.get h118 (by decide)
            have h119 := hfk.get h119 (by decide)
            have h120 := hfk.get h120 (by decide)
            have h121 := hfk.get h121 (by decide)
            have h122 := hfk.get h122 (by decide)
            have h123 := hfk.get h123 (by decide)
            have h124 := hfk.get h124 (by decide)
            have h85 := hfk.get h85 (by decide)
            have hfr := hfr.tr hfk (by decide)
            have hlen := hlk.trans hlen
            have hsl := hsk.trans hsl
            change ab_W _ _ _ G14 180 [some (vR 80), some (vR no), some (vz s), some (vz fm), some (vz ls), some (vz p), some (vz x), some (vz en), some (vz (m + (-1))), some (vz go_), some (vz ((12500 * s) + x)), none] [vz v15] _
            refine ab_istore d_MO_walk_180 (Nat.le_of_ble_eq_true rfl) (Nat.le_of_ble_eq_true rfl) rfl ?_
            change ab_W _ _ _ G14 182 [some (vR 80), some (vR no), some (vz s), some (vz fm), some (vz ls), some (vz p), some (vz x), some (vz en), some (vz (m + (-1))), some (vz go_), some (vz ((12500 * s) + x)), some (vz v15)] [] _
            refine ab_aload_n d_MO_walk_182 rfl ?_
            refine ab_getf (fs := mof m_thrown m_taped m_length m_out m_wide m_gathered m_sets m_ranges m_nodes m_at m_flags m_fault m_place m_numbered m_depth m_value m_isNot m_least0 m_most0 m_slot m_work m_got m_rowMany m_charAt m_charWide t26 m_isMatch m_matchGroups m_allFrom m_allBefore m_founds m_pieces m_writtenMany m_templateWide m_tooMuch) f_MO_128 d_MO_walk_183 h80.2.2 rfl ?_
            refine ab_iload d_MO_walk_186 rfl ?_
            refine zz_iald d_MO_walk_188 h118 (by omega) ?_
            have hq19 := jst ((12500 * s) + x) (by omega) (by omega)
            refine zz_if_ne (tgt := 214) d_MO_walk_189 (by decide) (by omega) (fun c20 => ?_) (fun c20 => ?_)
            · refine ab_aload_n d_MO_walk_214 rfl ?_
              refine ab_getf (fs := mof m_thrown m_taped m_length m_out m_wide m_gathered m_sets m_ranges m_nodes m_at m_flags m_fault m_place m_numbered m_depth m_value m_isNot m_least0 m_most0 m_slot m_work m_got m_rowMany m_charAt m_charWide t26 m_isMatch m_matchGroups m_allFrom m_allBefore m_founds m_pieces m_writtenMany m_templateWide m_tooMuch) f_MO_128 d_MO_walk_215 h80.2.2 rfl ?_
              refine ab_iload d_MO_walk_218 rfl ?_
              refine zz_iald d_MO_walk_220 h118 (by omega) ?_
              have hq21 := jst ((12500 * s) + x) (by omega) (by omega)
              refine zz_iconst d_MO_walk_221 ?_
              refine zz_icmp_eq (tgt := 236) d_MO_walk_222 (by decide) (by omega) (by decide) (fun c22 => ?_) (fun c22 => ?_)
              · refine ab_iload d_MO_walk_236 rfl ?_
                refine zz_if_le (tgt := 279) d_MO_walk_238 (by decide) (by omega) (fun c23 => ?_) (fun c23 => ?_)
                · refine zz_iconst d_MO_walk_279 ?_
                  refine ab_istore d_MO_walk_280 (Nat.le_of_ble_eq_true rfl) (Nat.le_of_ble_eq_true rfl) rfl ?_
                  change ab_W _ _ _ G14 282 [some (vR 80), some (vR no), some (vz s), some (vz fm), some (vz ls), some (vz p), some (vz x), some (vz en), some (vz (m + (-1))), some (vz 0), some (vz ((12500 * s) + x)), some (vz v15)] [] _
                  refine ab_iload d_MO_walk_282 rfl ?_
                  refine zz_if_eq (tgt := 318) d_MO_walk_284 (by decide) (by decide) (fun c24 => ?_) (fun c24 => absurd c24 (by decide))
                  refine ab_goto (tgt := 103) d_MO_walk_318 (by decide) ?_
                  refine ab_less (L' := [some (vR 80), some (vR no), some (vz s), some (vz fm), some (vz ls), some (vz p), some (vz x), some (vz en), some (vz (m + (-1))), some (vz 0), none, none]) (fun i v h => by rcases i with _ | _ | _ | _ | _ | _ | _ | _ | _ | _ | _ | _ | i <;> first | exact h | (simp at h)) ?_
                  exact ih (p := p) (k := x) (en := en) (m := (m + (-1))) (go_ := 0) (m_trail := t26) (Z := (zu Z x 1)) (SP := SP27) (PL := PL) (PT := PT) (TS := TS) (TO := TO) h80 h138 h142 h143 h140 h141 h144 hno h118 h119 h120 h121 h122 h123 h124 h85 (by omega) (rgs_zu jz (by omega)) hq9 jpt jts jto (fun j a c => jpl j a (by omega)) (fun _ _ => ⟨by omega, dfs_new hdf hx_.symm (by omega) (fun _ _ _ => rfl) (by first | exact nsd_no0 (by omega) (by have a1 := hl1; have a2 := hl2; omega) | exact nsd_no1 (by omega) hmc (by rw [← hpp]; exact hq16) (fun q => by have a1 := hl1; have a2 := hl2; first | omega | (exact absurd (by rw [hpp]; exact q.2.2) hb0))) (fun h => absurd h (by omega)) (fun h => absurd h (by omega)) (fun h _ => absurd h (by omega))⟩) (fun h => absurd h (by decide)) (fun h => by omega) (by rw [show (m + (-1)) = m - 1 by omega]; exact wlB_k (hcu_.stays hnt (fun k a c => jsb k a (by omega)) jsg (by omega) (by omega) hhw (by omega) hmc (by rw [← hpp]; exact hq16) (fun q => by have a1 := hl1; have a2 := hl2; first | omega)) ⟨by omega, by omega⟩) hfr hlen hsl (by omega) hk0
                · refine ab_iload d_MO_walk_241 rfl ?_
                  refine zz_if_lt (tgt := 256) d_MO_walk_243 (by decide) (by omega) (fun c25 => ?_) (fun c25 => ?_)
                  · have hnx_ := hsg_.2.1 (by omega) (by omega)
                    have hl1_ := hl1
                    have hl2_ := hl2
                    refine ab_aload_n d_MO_walk_256 rfl ?_
                    refine ab_iload d_MO_walk_257 rfl ?_
                    refine ab_iload d_MO_walk_259 rfl ?_
                    refine zz_iadd d_MO_walk_261 ?_
                    refine ab_aload_n d_MO_walk_262 rfl ?_
                    refine ab_getf (fs := mof m_thrown m_taped m_length m_out m_wide m_gathered m_sets m_ranges m_nodes m_at m_flags m_fault m_place m_numbered m_depth m_value m_isNot m_least0 m_most0 m_slot m_work m_got m_rowMany m_charAt m_charWide t26 m_isMatch m_matchGroups m_allFrom m_allBefore m_founds m_pieces m_writtenMany m_templateWide m_tooMuch) f_MO_131 d_MO_walk_263 h80.2.2 rfl ?_
                    refine ab_iload d_MO_walk_266 rfl ?_
                    refine zz_iald d_MO_walk_268 h119 (by omega) ?_
                    refine ab_callS (d' := d - 1) (as := [vR no, vz (p + v15), vz (A_next ((12500 * s) + x))]) (st := []) (z_MO_bit (o := o) (a := no) (l := lno) (A := NO) (p := (p + v15)) (k := (A_next ((12500 * s) + x))) hno (by omega)) (fun oc G2 h => by rcases h with ⟨h, _⟩ | ⟨h, _⟩ <;> exact ⟨_, h⟩) (by omega) m_MO_bit ml_MO_528 st_MO_bit (Nat.le_of_ble_eq_true rfl) d_MO_walk_269 rfl ?_
                    intro v G26 hq
                    rcases hq with ⟨hv, hGe, hq27⟩ | ⟨hv, hGe, hq28⟩
                    · cases hv
                      rw [hGe]
                      change ab_W _ _ _ G14 272 [some (vR 80), some (vR no), some (vz s), some (vz fm), some (vz ls), some (vz p), some (vz x), some (vz en), some (vz (m + (-1))), some (vz go_), some (vz ((12500 * s) + x)), some (vz v15)] [vz 1] _
                      refine zz_if_eq (tgt := 279) d_MO_walk_272 (by decide) (by decide) (fun c29 => absurd c29 (by decide)) (fun c29 => ?_)
                      refine zz_iconst d_MO_walk_275 ?_
                      refine ab_goto (tgt := 280) d_MO_walk_276 (by decide) ?_
                      refine ab_istore d_MO_walk_280 (Nat.le_of_ble_eq_true rfl) (Nat.le_of_ble_eq_true rfl) rfl ?_
                      change ab_W _ _ _ G14 282 [some (vR 80), some (vR no), some (vz s), some (vz fm), some (vz ls), some (vz p), some (vz x), some (vz en), some (vz (m + (-1))), some (vz 1), some (vz ((12500 * s) + x)), some (vz v15)] [] _
                      refine ab_iload d_MO_walk_282 rfl ?_
                      refine zz_if_eq (tgt := 318) d_MO_walk_284 (by decide) (by decide) (fun c30 => absurd c30 (by decide)) (fun c30 => ?_)
                      refine ab_aload_n d_MO_walk_287 rfl ?_
                      refine ab_getf (fs := mof m_thrown m_taped m_length m_out m_wide m_gathered m_sets m_ranges m_nodes m_at m_flags m_fault m_place m_numbered m_depth m_value m_isNot m_least0 m_most0 m_slot m_work m_got m_rowMany m_charAt m_charWide t26 m_isMatch m_matchGroups m_allFrom m_allBefore m_founds m_pieces m_writtenMany m_templateWide m_tooMuch) f_MO_131 d_MO_walk_288 h80.2.2 rfl ?_
                      refine ab_iload d_MO_walk_291 rfl ?_
                      refine zz_iald d_MO_walk_293 h119 (by omega) ?_
                      refine ab_istore d_MO_walk_294 (Nat.le_of_ble_eq_true rfl) (Nat.le_of_ble_eq_true rfl) rfl ?_
                      change ab_W _ _ _ G14 296 [some (vR 80), some (vR no), some (vz s), some (vz fm), some (vz ls), some (vz p), some (vz (A_next ((12500 * s) + x))), some (vz en), some (vz (m + (-1))), some (vz 1), some (vz ((12500 * s) + x)), some (vz v15)] [] _
                      refine ab_iload d_MO_walk_296 rfl ?_
                      refine ab_iload d_MO_walk_298 rfl ?_
                      refine zz_iadd d_MO_walk_300 ?_
                      refine ab_istore d_MO_walk_301 (Nat.le_of_ble_eq_true rfl) (Nat.le_of_ble_eq_true rfl) rfl ?_
                      change ab_W _ _ _ G14 303 [some (vR 80), some (vR no), some (vz s), some (vz fm), some (vz ls), some (vz (p + v15)), some (vz (A_next ((12500 * s) + x))), some (vz en), some (vz (m + (-1))), some (vz 1), some (vz ((12500 * s) + x)), some (vz v15)] [] _
                      refine ab_goto (tgt := 318) d_MO_walk_303 (by decide) ?_
                      refine ab_goto (tgt := 103) d_MO_walk_318 (by decide) ?_
                      refine ab_less (L' := [some (vR 80), some (vR no), some (vz s), some (vz fm), some (vz ls), some (vz (p + v15)), some (vz (A_next ((12500 * s) + x))), some (vz en), some (vz (m + (-1))), some (vz 1), none, none]) (fun i v h => by rcases i with _ | _ | _ | _ | _ | _ | _ | _ | _ | _ | _ | _ | i <;> first | exact h | (simp at h)) ?_
                      exact ih (p := (p + v15)) (k := (A_next ((12500 * s) + x))) (en := en) (m := (m + (-1))) (go_ := 1) (m_trail := t26) (Z := (zu Z x 1)) (SP := SP27) (PL := PL) (PT := PT) (TS := TS) (TO := TO) h80 h138 h142 h143 h140 h141 h144 hno h118 h119 h120 h121 h122 h123 h124 h85 (by omega) (rgs_zu jz (by omega)) hq9 jpt jts jto (fun j a c => jpl j a (by omega)) (fun h => absurd h (by decide)) (fun _ => ⟨by omega, by have a1 := hl1; have a2 := hl2; omega, by omega, by omega, hq27, by omega⟩) (fun h => by omega) (by rw [hpp]; exact wlB_g (hcu_.goes hnt (fun k a c => jsb k a (by omega)) jsg (by omega) (by omega) hhw hmc (by rw [← hpp]; exact hq16) (by omega) (by have a1 := hl1; have a2 := hl2; omega) (by rw [← hpp]; exact hq27)) ⟨rfl, by omega⟩) hfr hlen hsl (by omega) hk0
                    · cases hv
                      rw [hGe]
                      change ab_W _ _ _ G14 272 [some (vR 80), some (vR no), some (vz s), some (vz fm), some (vz ls), some (vz p), some (vz x), some (vz en), some (vz (m + (-1))), some (vz go_), some (vz ((12500 * s) + x)), some (vz v15)] [vz 0] _
                      refine zz_if_eq (tgt := 279) d_MO_walk_272 (by decide) (by decide) (fun c31 => ?_) (fun c31 => absurd c31 (by decide))
                      refine zz_iconst d_MO_walk_279 ?_
                      refine ab_istore d_MO_walk_280 (Nat.le_of_ble_eq_true rfl) (Nat.le_of_ble_eq_true rfl) rfl ?_
                      change ab_W _ _ _ G14 282 [some (vR 80), some (vR no), some (vz s), some (vz fm), some (vz ls), some (vz p), some (vz x), some (vz en), some (vz (m + (-1))), some (vz 0), some (vz ((12500 * s) + x)), some (vz v15)] [] _
                      refine ab_iload d_MO_walk_282 rfl ?_
                      refine zz_if_eq (tgt := 318) d_MO_walk_284 (by decide) (by decide) (fun c32 => ?_) (fun c32 => absurd c32 (by decide))
                      refine ab_goto (tgt := 103) d_MO_walk_318 (by decide) ?_
                      refine ab_less (L' := [some (vR 80), some (vR no), some (vz s), some (vz fm), some (vz ls), some (vz p), some (vz x), some (vz en), some (vz (m + (-1))), some (vz 0), none, none]) (fun i v h => by rcases i with _ | _ | _ | _ | _ | _ | _ | _ | _ | _ | _ | _ | i <;> first | exact h | (simp at h)) ?_
                      exact ih (p := p) (k := x) (en := en) (m := (m + (-1))) (go_ := 0) (m_trail := t26) (Z := (zu Z x 1)) (SP := SP27) (PL := PL) (PT := PT) (TS := TS) (TO := TO) h80 h138 h142 h143 h140 h141 h144 hno h118 h119 h120 h121 h122 h123 h124 h85 (by omega) (rgs_zu jz (by omega)) hq9 jpt jts jto (fun j a c => jpl j a (by omega)) (fun _ _ => ⟨by omega, dfs_new hdf hx_.symm (by omega) (fun _ _ _ => rfl) (by first | exact nsd_no0 (by omega) (by have a1 := hl1; have a2 := hl2; omega) | exact nsd_no1 (by omega) hmc (by rw [← hpp]; exact hq16) (fun q => by have a1 := hl1; have a2 := hl2; first | omega | (exact absurd (by rw [hpp]; exact q.2.2) hq28))) (fun h => absurd h (by omega)) (fun h => absurd h (by omega)) (fun h _ => absurd h (by omega))⟩) (fun h => absurd h (by decide)) (fun h => by omega) (by rw [show (m + (-1)) = m - 1 by omega]; exact wlB_k (hcu_.stays hnt (fun k a c => jsb k a (by omega)) jsg (by omega) (by omega) hhw (by omega) hmc (by rw [← hpp]; exact hq16) (fun q => by have a1 := hl1; have a2 := hl2; first | omega | (exact absurd (by rw [hpp]; exact q.2.2) hq28))) ⟨by omega, by omega⟩) hfr hlen hsl (by omega) hk0
                  · refine ab_iload d_MO_walk_246 rfl ?_
                    refine ab_iload d_MO_walk_248 rfl ?_
                    refine zz_iadd d_MO_walk_250 ?_
                    refine ab_iload d_MO_walk_251 rfl ?_
                    refine zz_icmp_gt (tgt := 279) d_MO_walk_253 (by decide) (by omega) (by omega) (fun c33 => ?_) (fun c33 => ?_)
                    · refine zz_iconst d_MO_walk_279 ?_
                      refine ab_istore d_MO_walk_280 (Nat.le_of_ble_eq_true rfl) (Nat.le_of_ble_eq_true rfl) rfl ?_
                      change ab_W _ _ _ G14 282 [some (vR 80), some (vR no), some (vz s), some (vz fm), some (vz ls), some (vz p), some (vz x), some (vz en), some (vz (m + (-1))), some (vz 0), some (vz ((12500 * s) + x)), some (vz v15)] [] _
                      refine ab_iload d_MO_walk_282 rfl ?_
                      refine zz_if_eq (tgt := 318) d_MO_walk_284 (by decide) (by decide) (fun c34 => ?_) (fun c34 => absurd c34 (by decide))
                      refine ab_goto (tgt := 103) d_MO_walk_318 (by decide) ?_
                      refine ab_less (L' := [some (vR 80), some (vR no), some (vz s), some (vz fm), some (vz ls), some (vz p), some (vz x), some (vz en), some (vz (m + (-1))), some (vz 0), none, none]) (fun i v h => by rcases i with _ | _ | _ | _ | _ | _ | _ | _ | _ | _ | _ | _ | i <;> first | exact h | (simp at h)) ?_
                      exact ih (p := p) (k := x) (en := en) (m := (m + (-1))) (go_ := 0) (m_trail := t26) (Z := (zu Z x 1)) (SP := SP27) (PL := PL) (PT := PT) (TS := TS) (TO := TO) h80 h138 h142 h143 h140 h141 h144 hno h118 h119 h120 h121 h122 h123 h124 h85 (by omega) (rgs_zu jz (by omega)) hq9 jpt jts jto (fun j a c => jpl j a (by omega)) (fun _ _ => ⟨by omega, dfs_new hdf hx_.symm (by omega) (fun _ _ _ => rfl) (by first | exact nsd_no0 (by omega) (by have a1 := hl1; have a2 := hl2; omega) | exact nsd_no1 (by omega) hmc (by rw [← hpp]; exact hq16) (fun q => by have a1 := hl1; have a2 := hl2; first | omega | (exact absurd (by rw [hpp]; exact q.2.2) hb0))) (fun h => absurd h (by omega)) (fun h => absurd h (by omega)) (fun h _ => absurd h (by omega))⟩) (fun h => absurd h (by decide)) (fun h => by omega) (by rw [show (m + (-1)) = m - 1 by omega]; exact wlB_k (hcu_.stays hnt (fun k a c => jsb k a (by omega)) jsg (by omega) (by omega) hhw (by omega) hmc (by rw [← hpp]; exact hq16) (fun q => by have a1 := hl1; have a2 := hl2; first | omega)) ⟨by omega, by omega⟩) hfr hlen hsl (by omega) hk0
                    · have hnx_ := hsg_.2.1 (by omega) (by omega)
                      have hl1_ := hl1
                      have hl2_ := hl2
                      refine ab_aload_n d_MO_walk_256 rfl ?_
                      refine ab_iload d_MO_walk_257 rfl ?_
                      refine ab_iload d_MO_walk_259 rfl ?_
                      refine zz_iadd d_MO_walk_261 ?_
                      refine ab_aload_n d_MO_walk_262 rfl ?_
                      refine ab_getf (fs := mof m_thrown m_taped m_length m_out m_wide m_gathered m_sets m_ranges m_nodes m_at m_flags m_fault m_place m_numbered m_depth m_value m_isNot m_least0 m_most0 m_slot m_work m_got m_rowMany m_charAt m_charWide t26 m_isMatch m_matchGroups m_allFrom m_allBefore m_founds m_pieces m_writtenMany m_templateWide m_tooMuch) f_MO_131 d_MO_walk_263 h80.2.2 rfl ?_
                      refine ab_iload d_MO_walk_266 rfl ?_
                      refine zz_iald d_MO_walk_268 h119 (by omega) ?_
                      refine ab_callS (d' := d - 1) (as := [vR no, vz (p + v15), vz (A_next ((12500 * s) + x))]) (st := []) (z_MO_bit (o := o) (a := no) (l := lno) (A := NO) (p := (p + v15)) (k := (A_next ((12500 * s) + x))) hno (by omega)) (fun oc G2 h => by rcases h with ⟨h, _⟩ | ⟨h, _⟩ <;> exact ⟨_, h⟩) (by omega) m_MO_bit ml_MO_528 st_MO_bit (Nat.le_of_ble_eq_true rfl) d_MO_walk_269 rfl ?_
                      intro v G35 hq
                      rcases hq with ⟨hv, hGe, hq36⟩ | ⟨hv, hGe, hq37⟩
                      · cases hv
                        rw [hGe]
                        change ab_W _ _ _ G14 272 [some (vR 80), some (vR no), some (vz s), some (vz fm), some (vz ls), some (vz p), some (vz x), some (vz en), some (vz (m + (-1))), some (vz go_), some (vz ((12500 * s) + x)), some (vz v15)] [vz 1] _
                        refine zz_if_eq (tgt := 279) d_MO_walk_272 (by decide) (by decide) (fun c38 => absurd c38 (by decide)) (fun c38 => ?_)
                        refine zz_iconst d_MO_walk_275 ?_
                        refine ab_goto (tgt := 280) d_MO_walk_276 (by decide) ?_
                        refine ab_istore d_MO_walk_280 (Nat.le_of_ble_eq_true rfl) (Nat.le_of_ble_eq_true rfl) rfl ?_
                        change ab_W _ _ _ G14 282 [some (vR 80), some (vR no), some (vz s), some (vz fm), some (vz ls), some (vz p), some (vz x), some (vz en), some (vz (m + (-1))), some (vz 1), some (vz ((12500 * s) + x)), some (vz v15)] [] _
                        refine ab_iload d_MO_walk_282 rfl ?_
                        refine zz_if_eq (tgt := 318) d_MO_walk_284 (by decide) (by decide) (fun c39 => absurd c39 (by decide)) (fun c39 => ?_)
                        refine ab_aload_n d_MO_walk_287 rfl ?_
                        refine ab_getf (fs := mof m_thrown m_taped m_length m_out m_wide m_gathered m_sets m_ranges m_nodes m_at m_flags m_fault m_place m_numbered m_depth m_value m_isNot m_least0 m_most0 m_slot m_work m_got m_rowMany m_charAt m_charWide t26 m_isMatch m_matchGroups m_allFrom m_allBefore m_founds m_pieces m_writtenMany m_templateWide m_tooMuch) f_MO_131 d_MO_walk_288 h80.2.2 rfl ?_
                        refine ab_iload d_MO_walk_291 rfl ?_
                        refine zz_iald d_MO_walk_293 h119 (by omega) ?_
                        refine ab_istore d_MO_walk_294 (Nat.le_of_ble_eq_true rfl) (Nat.le_of_ble_eq_true rfl) rfl ?_
                        change ab_W _ _ _ G14 296 [some (vR 80), some (vR no), some (vz s), some (vz fm), some (vz ls), some (vz p), some (vz (A_next ((12500 * s) + x))), some (vz en), some (vz (m + (-1))), some (vz 1), some (vz ((12500 * s) + x)), some (vz v15)] [] _
                        refine ab_iload d_MO_walk_296 rfl ?_
                        refine ab_iload d_MO_walk_298 rfl ?_
                        refine zz_iadd d_MO_walk_300 ?_
                        refine ab_istore d_MO_walk_301 (Nat.le_of_ble_eq_true rfl) (Nat.le_of_ble_eq_true rfl) rfl ?_
                        change ab_W _ _ _ G14 303 [some (vR 80), some (vR no), some (vz s), some (vz fm), some (vz ls), some (vz (p + v15)), some (vz (A_next ((12500 * s) + x))), some (vz en), some (vz (m + (-1))), some (vz 1), some (vz ((12500 * s) + x)), some (vz v15)] [] _
                        refine ab_goto (tgt := 318) d_MO_walk_303 (by decide) ?_
                        refine ab_goto (tgt := 103) d_MO_walk_318 (by decide) ?_
                        refine ab_less (L' := [some (vR 80), some (vR no), some (vz s), some (vz fm), some (vz ls), some (vz (p + v15)), some (vz (A_next ((12500 * s) + x))), some (vz en), some (vz (m + (-1))), some (vz 1), none, none]) (fun i v h => by rcases i with _ | _ | _ | _ | _ | _ | _ | _ | _ | _ | _ | _ | i <;> first | exact h | (simp at h)) ?_
                        exact ih (p := (p + v15)) (k := (A_next ((12500 * s) + x))) (en := en) (m := (m + (-1))) (go_ := 1) (m_trail := t26) (Z := (zu Z x 1)) (SP := SP27) (PL := PL) (PT := PT) (TS := TS) (TO := TO) h80 h138 h142 h143 h140 h141 h144 hno h118 h119 h120 h121 h122 h123 h124 h85 (by omega) (rgs_zu jz (by omega)) hq9 jpt jts jto (fun j a c => jpl j a (by omega)) (fun h => absurd h (by decide)) (fun _ => ⟨by omega, by have a1 := hl1; have a2 := hl2; omega, by omega, by omega, hq36, by omega⟩) (fun h => by omega) (by rw [hpp]; exact wlB_g (hcu_.goes hnt (fun k a c => jsb k a (by omega)) jsg (by omega) (by omega) hhw hmc (by rw [← hpp]; exact hq16) (by omega) (by have a1 := hl1; have a2 := hl2; omega) (by rw [← hpp]; exact hq36)) ⟨rfl, by omega⟩) hfr hlen hsl (by omega) hk0
                      · cases hv
                        rw [hGe]
                        change ab_W _ _ _ G14 272 [some (vR 80), some (vR no), some (vz s), some (vz fm), some (vz ls), some (vz p), some (vz x), some (vz en), some (vz (m + (-1))), some (vz go_), some (vz ((12500 * s) + x)), some (vz v15)] [vz 0] _
                        refine zz_if_eq (tgt := 279) d_MO_walk_272 (by decide) (by decide) (fun c40 => ?_) (fun c40 => absurd c40 (by decide))
                        refine zz_iconst d_MO_walk_279 ?_
                        refine ab_istore d_MO_walk_280 (Nat.le_of_ble_eq_true rfl) (Nat.le_of_ble_eq_true rfl) rfl ?_
                        change ab_W _ _ _ G14 282 [some (vR 80), some (vR no), some (vz s), some (vz fm), some (vz ls), some (vz p), some (vz x), some (vz en), some (vz (m + (-1))), some (vz 0), some (vz ((12500 * s) + x)), some (vz v15)] [] _
                        refine ab_iload d_MO_walk_282 rfl ?_
                        refine zz_if_eq (tgt := 318) d_MO_walk_284 (by decide) (by decide) (fun c41 => ?_) (fun c41 => absurd c41 (by decide))
                        refine ab_goto (tgt := 103) d_MO_walk_318 (by decide) ?_
                        refine ab_less (L' := [some (vR 80), some (vR no), some (vz s), some (vz fm), some (vz ls), some (vz p), some (vz x), some (vz en), some (vz (m + (-1))), some (vz 0), none, none]) (fun i v h => by rcases i with _ | _ | _ | _ | _ | _ | _ | _ | _ | _ | _ | _ | i <;> first | exact h | (simp at h)) ?_
                        exact ih (p := p) (k := x) (en := en) (m := (m + (-1))) (go_ := 0) (m_trail := t26) (Z := (zu Z x 1)) (SP := SP27) (PL := PL) (PT := PT) (TS := TS) (TO := TO) h80 h138 h142 h143 h140 h141 h144 hno h118 h119 h120 h121 h122 h123 h124 h85 (by omega) (rgs_zu jz (by omega)) hq9 jpt jts jto (fun j a c => jpl j a (by omega)) (fun _ _ => ⟨by omega, dfs_new hdf hx_.symm (by omega) (fun _ _ _ => rfl) (by first | exact nsd_no0 (by omega) (by have a1 := hl1; have a2 := hl2; omega) | exact nsd_no1 (by omega) hmc (by rw [← hpp]; exact hq16) (fun q => by have a1 := hl1; have a2 := hl2; first | omega | (exact absurd (by rw [hpp]; exact q.2.2) hq37))) (fun h => absurd h (by omega)) (fun h => absurd h (by omega)) (fun h _ => absurd h (by omega))⟩) (fun h => absurd h (by decide)) (fun h => by omega) (by rw [show (m + (-1)) = m - 1 by omega]; exact wlB_k (hcu_.stays hnt (fun k a c => jsb k a (by omega)) jsg (by omega) (by omega) hhw (by omega) hmc (by rw [← hpp]; exact hq16) (fun q => by have a1 := hl1; have a2 := hl2; first | omega | (exact absurd (by rw [hpp]; exact q.2.2) hq37))) ⟨by omega, by omega⟩) hfr hlen hsl (by omega) hk0
              · refine ab_aload_n d_MO_walk_225 rfl ?_
                refine ab_getf (fs := mof m_thrown m_taped m_length m_out m_wide m_gathered m_sets m_ranges m_nodes m_at m_flags m_fault m_place m_numbered m_depth m_value m_isNot m_least0 m_most0 m_slot m_work m_got m_rowMany m_charAt m_charWide t26 m_isMatch m_matchGroups m_allFrom m_allBefore m_founds m_pieces m_writtenMany m_templateWide m_tooMuch) f_MO_128 d_MO_walk_226 h80.2.2 rfl ?_
                refine ab_iload d_MO_walk_229 rfl ?_
                refine zz_iald d_MO_walk_231 h118 (by omega) ?_
                have hq42 := jst ((12500 * s) + x) (by omega) (by omega)
                refine zz_iconst d_MO_walk_232 ?_
                refine zz_icmp_ne (tgt := 306) d_MO_walk_233 (by decide) (by omega) (by decide) (fun c43 => ?_) (fun c43 => ?_)
                · refine ab_aload_n d_MO_walk_306 rfl ?_
                  refine ab_iload d_MO_walk_307 rfl ?_
                  refine ab_iload d_MO_walk_309 rfl ?_
                  refine ab_iload d_MO_walk_311 rfl ?_
                  refine ab_callV (d' := d - 1) (as := [vz ((12500 * s) + x), vz p, vz (m + (-1))]) (st := []) (r := _) (z_MO_onward (o := o) (m_thrown := m_thrown) (m_taped := m_taped) (m_length := m_length) (m_out := m_out) (m_wide := m_wide) (m_gathered := m_gathered) (m_sets := m_sets) (m_ranges := m_ranges) (m_nodes := m_nodes) (m_at := m_at) (m_flags := m_flags) (m_fault := m_fault) (m_place := m_place) (m_numbered := m_numbered) (m_depth := m_depth) (m_value := m_value) (m_isNot := m_isNot) (m_least0 := m_least0) (m_most0 := m_most0) (m_slot := m_slot) (m_work := m_work) (m_got := m_got) (m_rowMany := m_rowMany) (m_charAt := m_charAt) (m_charWide := m_charWide) (m_trail := t26) (m_isMatch := m_isMatch) (m_matchGroups := m_matchGroups) (m_allFrom := m_allFrom) (m_allBefore := m_allBefore) (m_founds := m_founds) (m_pieces := m_pieces) (m_writtenMany := m_writtenMany) (m_templateWide := m_templateWide) (m_tooMuch := m_tooMuch) (A_subject := A_subject) (A_step := A_step) (A_next := A_next) (A_more := A_more) (p := p) (SP := SP27) (PL := PL) (PT := PT) (TS := TS) (TO := TO) (m := (m + (-1))) h80 h138 h142 h143 h140 h141 h118 h119 h120 h85 (by omega) (by omega) (by omega) jsg jst jsb (by omega) hq9 jpt jts jto (fun j a c => jpl j a (by omega)) (by omega)) (fun oc G2 h => by rcases h with ⟨_, _, _, _, _, _, h, _⟩ | ⟨_, _, _, _, _, _, h, _⟩ | ⟨_, _, _, _, _, _, h, _⟩ <;> exact ⟨_, h⟩) (by omega) m_MO_onward ml_MO_546 im_MO_onward se_MO_onward c_MO h80.2.2 (Nat.le_of_ble_eq_true rfl) d_MO_walk_313 rfl ?_
                  intro v G44 hq
                  rcases hq with ⟨SP245, PL246, PT247, TS248, TO249, t250, hv, hfk, hlk, hsk, hN80, hN138, hN142, hN143, hN140, hN141, hq51, hq52, hq53, hq54, hq55, hq56, hq57, hq58, hq59⟩ | ⟨SP260, PL261, PT262, TS263, TO264, t265, hv, hfk, hlk, hsk, hN80, hN138, hN142, hN143, hN140, hN141, hq66, hq67, hq68, hq69, hq70, hq71, hq72, hq73, hq74, hq75⟩ | ⟨SP276, PL277, PT278, TS279, TO280, t281, hv, hfk, hlk, hsk, hN80, hN138, hN142, hN143, hN140, hN141, hq82, hq83, hq84, hq85, hq86, hq87, hq88, hq89, hq90, hq91⟩
                  · cases hv
                    have h144 := hfk.get h144 (by decide)
                    have hno := hfk.get hno (by simp only [List.mem_cons, List.not_mem_nil, or_false]; omega)
                    have h118 := hfk.get h118 (by decide)
                    have h119 := hfk.get h119 (by decide)
                    have h120 := hfk.get h120 (by decide)
                    have h121 := hfk.get h121 (by decide)
                    have h122 := hfk.get h122 (by decide)
                    have h123 := hfk.get h123 (by decide)
                    have h124 := hfk.get h124 (by decide)
                    have h85 := hfk.get h85 (by decide)
                    have hfr := hfr.tr hfk (by decide)
                    have hlen := hlk.trans hlen
                    have hsl := hsk.trans hsl
                    have h80 := hN80
                    have h138 := hN138
                    have h142 := hN142
                    have h143 := hN143
                    have h140 := hN140
                    have h141 := hN141
                    change ab_W _ _ _ G44 316 [some (vR 80), some (vR no), some (vz s), some (vz fm), some (vz ls), some (vz p), some (vz x), some (vz en), some (vz (m + (-1))), some (vz go_), some (vz ((12500 * s) + x)), some (vz v15)] [vz (m + (-1))] _
                    refine ab_istore d_MO_walk_316 (Nat.le_of_ble_eq_true rfl) (Nat.le_of_ble_eq_true rfl) rfl ?_
                    change ab_W _ _ _ G44 318 [some (vR 80), some (vR no), some (vz s), some (vz fm), some (vz ls), some (vz p), some (vz x), some (vz en), some (vz (m + (-1))), some (vz go_), some (vz ((12500 * s) + x)), some (vz v15)] [] _
                    refine ab_goto (tgt := 103) d_MO_walk_318 (by decide) ?_
                    refine ab_less (L' := [some (vR 80), some (vR no), some (vz s), some (vz fm), some (vz ls), some (vz p), some (vz x), some (vz en), some (vz (m + (-1))), some (vz go_), none, none]) (fun i v h => by rcases i with _ | _ | _ | _ | _ | _ | _ | _ | _ | _ | _ | _ | i <;> first | exact h | (simp at h)) ?_
                    exact ih (p := p) (k := x) (en := en) (m := (m + (-1))) (go_ := go_) (m_trail := t250) (Z := (zu Z x 1)) (SP := SP245) (PL := PL246) (PT := PT247) (TS := TS248) (TO := TO249) h80 h138 h142 h143 h140 h141 h144 hno h118 h119 h120 h121 h122 h123 h124 h85 (by omega) (rgs_zu jz (by omega)) hq51 hq52 hq53 hq54 (fun j a c => hq57 j a (by omega)) (fun _ _ => ⟨by omega, dfs_new hdf hx_.symm (by omega) (fun j a c => hq56 j a (by omega)) (by first | exact nsd_no0 (by omega) (by have a1 := hl1; have a2 := hl2; omega) | exact nsd_no1 (by omega) hmc (by rw [← hpp]; exact hq16) (fun q => by have a1 := hl1; have a2 := hl2; first | omega | (exact absurd (by rw [hpp]; exact q.2.2) hb0))) (fun h => absurd h (by omega)) (fun h => absurd h (by omega)) (fun h u => by rcases hq58 with z | z; (omega); (exact absurd (by rw [hpp]; exact u) z.2))⟩) (fun h => by omega) (fun h => by omega) (by rw [show (m + (-1)) = m - 1 by omega]; exact wlB_k (hcu_.no hnt jsg (by omega) (by omega) hhw (by have t_ := hq58; rw [hpp] at t_; first | exact t_ | (rw [show m + -1 = m - 1 by omega] at t_; exact t_)) (by have t_ := hq59; first | exact t_ | (rw [show m + -1 = m - 1 by omega] at t_; exact t_))) ⟨by omega, by omega⟩) hfr hlen hsl (by omega) hk0
                  · cases hv
                    have h144 := hfk.get h144 (by decide)
                    have hno := hfk.get hno (by simp only [List.mem_cons, List.not_mem_nil, or_false]; omega)
                    have h118 := hfk.get h118 (by decide)
                    have h119 := hfk.get h119 (by decide)
                    have h120 := hfk.get h120 (by decide)
                    have h121 := hfk.get h121 (by decide)
                    have h122 := hfk.get h122 (by decide)
                    have h123 := hfk.get h123 (by decide)
                    have h124 := hfk.get h124 (by decide)
                    have h85 := hfk.get h85 (by decide)
                    have hfr := hfr.tr hfk (by decide)
                    have hlen := hlk.trans hlen
                    have hsl := hsk.trans hsl
                    have h80 := hN80
                    have h138 := hN138
                    have h142 := hN142
                    have h143 := hN143
                    have h140 := hN140
                    have h141 := hN141
                    change ab_W _ _ _ G44 316 [some (vR 80), some (vR no), some (vz s), some (vz fm), some (vz ls), some (vz p), some (vz x), some (vz en), some (vz (m + (-1))), some (vz go_), some (vz ((12500 * s) + x)), some (vz v15)] [vz ((m + (-1)) + 2)] _
                    refine ab_istore d_MO_walk_316 (Nat.le_of_ble_eq_true rfl) (Nat.le_of_ble_eq_true rfl) rfl ?_
                    change ab_W _ _ _ G44 318 [some (vR 80), some (vR no), some (vz s), some (vz fm), some (vz ls), some (vz p), some (vz x), some (vz en), some (vz ((m + (-1)) + 2)), some (vz go_), some (vz ((12500 * s) + x)), some (vz v15)] [] _
                    refine ab_goto (tgt := 103) d_MO_walk_318 (by decide) ?_
                    refine ab_less (L' := [some (vR 80), some (vR no), some (vz s), some (vz fm), some (vz ls), some (vz p), some (vz x), some (vz en), some (vz ((m + (-1)) + 2)), some (vz go_), none, none]) (fun i v h => by rcases i with _ | _ | _ | _ | _ | _ | _ | _ | _ | _ | _ | _ | i <;> first | exact h | (simp at h)) ?_
                    exact ih (p := p) (k := x) (en := en) (m := ((m + (-1)) + 2)) (go_ := go_) (m_trail := t265) (Z := (zu Z x 1)) (SP := SP260) (PL := PL261) (PT := PT262) (TS := TS263) (TO := TO264) h80 h138 h142 h143 h140 h141 h144 hno h118 h119 h120 h121 h122 h123 h124 h85 (by omega) (rgs_zu jz (by omega)) hq66 hq67 hq68 hq69 (fun j a c => hq72 j a (by omega)) (fun _ _ => ⟨by omega, dfs_new hdf hx_.symm (by omega) (fun j a c => hq71 j a (by omega)) (by first | exact nsd_no0 (by omega) (by have a1 := hl1; have a2 := hl2; omega) | exact nsd_no1 (by omega) hmc (by rw [← hpp]; exact hq16) (fun q => by have a1 := hl1; have a2 := hl2; first | omega | (exact absurd (by rw [hpp]; exact q.2.2) hb0))) (fun _ => by rw [show ((m + (-1)) + 2) = m - 1 + 2 by omega]; have t := hq74; rw [show m + -1 = m - 1 by omega] at t; exact t) (fun h => absurd h (by omega)) (fun h _ => absurd h (by omega))⟩) (fun h => by omega) (fun h => by omega) (by rw [show ((m + (-1)) + 2) = m - 1 + 2 by omega]; exact wlB_k (hcu_.splits hnt jsg (by omega) (by omega) hhw (by omega) (by omega) (by have t_ := hq75; first | exact t_ | (rw [show m + -1 = m - 1 by omega] at t_; exact t_))) ⟨by omega, by omega⟩) hfr hlen hsl (by omega) hk0
                  · cases hv
                    have h144 := hfk.get h144 (by decide)
                    have hno := hfk.get hno (by simp only [List.mem_cons, List.not_mem_nil, or_false]; omega)
                    have h118 := hfk.get h118 (by decide)
                    have h119 := hfk.get h119 (by decide)
                    have h120 := hfk.get h120 (by decide)
                    have h121 := hfk.get h121 (by decide)
                    have h122 := hfk.get h122 (by decide)
                    have h123 := hfk.get h123 (by decide)
                    have h124 := hfk.get h124 (by decide)
                    have h85 := hfk.get h85 (by decide)
                    have hfr := hfr.tr hfk (by decide)
                    have hlen := hlk.trans hlen
                    have hsl := hsk.trans hsl
                    have h80 := hN80
                    have h138 := hN138
                    have h142 := hN142
                    have h143 := hN143
                    have h140 := hN140
                    have h141 := hN141
                    change ab_W _ _ _ G44 316 [some (vR 80), some (vR no), some (vz s), some (vz fm), some (vz ls), some (vz p), some (vz x), some (vz en), some (vz (m + (-1))), some (vz go_), some (vz ((12500 * s) + x)), some (vz v15)] [vz ((m + (-1)) + 1)] _
                    refine ab_istore d_MO_walk_316 (Nat.le_of_ble_eq_true rfl) (Nat.le_of_ble_eq_true rfl) rfl ?_
                    change ab_W _ _ _ G44 318 [some (vR 80), some (vR no), some (vz s), some (vz fm), some (vz ls), some (vz p), some (vz x), some (vz en), some (vz ((m + (-1)) + 1)), some (vz go_), some (vz ((12500 * s) + x)), some (vz v15)] [] _
                    refine ab_goto (tgt := 103) d_MO_walk_318 (by decide) ?_
                    refine ab_less (L' := [some (vR 80), some (vR no), some (vz s), some (vz fm), some (vz ls), some (vz p), some (vz x), some (vz en), some (vz ((m + (-1)) + 1)), some (vz go_), none, none]) (fun i v h => by rcases i with _ | _ | _ | _ | _ | _ | _ | _ | _ | _ | _ | _ | i <;> first | exact h | (simp at h)) ?_
                    exact ih (p := p) (k := x) (en := en) (m := ((m + (-1)) + 1)) (go_ := go_) (m_trail := t281) (Z := (zu Z x 1)) (SP := SP276) (PL := PL277) (PT := PT278) (TS := TS279) (TO := TO280) h80 h138 h142 h143 h140 h141 h144 hno h118 h119 h120 h121 h122 h123 h124 h85 (by omega) (rgs_zu jz (by omega)) hq82 hq83 hq84 hq85 (fun j a c => hq88 j a (by omega)) (fun _ _ => ⟨by omega, dfs_new hdf hx_.symm (by omega) (fun j a c => hq87 j a (by omega)) (by first | exact nsd_no0 (by omega) (by have a1 := hl1; have a2 := hl2; omega) | exact nsd_no1 (by omega) hmc (by rw [← hpp]; exact hq16) (fun q => by have a1 := hl1; have a2 := hl2; first | omega | (exact absurd (by rw [hpp]; exact q.2.2) hb0))) (fun h => absurd h (by omega)) (fun _ => (by rw [show ((m + (-1)) + 1) = m - 1 + 1 by omega]; have t := hq90; rw [show m + -1 = m - 1 by omega] at t; exact t)) (fun _ _ => (by rw [show ((m + (-1)) + 1) = m - 1 + 1 by omega]; have t := hq90; rw [show m + -1 = m - 1 by omega] at t; exact t))⟩) (fun h => by omega) (fun h => by omega) (by rw [show ((m + (-1)) + 1) = m - 1 + 1 by omega]; exact wlB_k (hcu_.lays hnt jsg (by omega) (by omega) hhw (by omega) (by have t_ := hq91; rw [hpp] at t_; first | exact t_ | (rw [show m + -1 = m - 1 by omega] at t_; exact t_))) ⟨by omega, by omega⟩) hfr hlen hsl (by omega) hk0
                · refine ab_iload d_MO_walk_236 rfl ?_
                  refine zz_if_le (tgt := 279) d_MO_walk_238 (by decide) (by omega) (fun c92 => ?_) (fun c92 => ?_)
                  · refine zz_iconst d_MO_walk_279 ?_
                    refine ab_istore d_MO_walk_280 (Nat.le_of_ble_eq_true rfl) (Nat.le_of_ble_eq_true rfl) rfl ?_
                    change ab_W _ _ _ G14 282 [some (vR 80), some (vR no), some (vz s), some (vz fm), some (vz ls), some (vz p), some (vz x), some (vz en), some (vz (m + (-1))), some (vz 0), some (vz ((12500 * s) + x)), some (vz v15)] [] _
                    refine ab_iload d_MO_walk_282 rfl ?_
                    refine zz_if_eq (tgt := 318) d_MO_walk_284 (by decide) (by decide) (fun c93 => ?_) (fun c93 => absurd c93 (by decide))
                    refine ab_goto (tgt := 103) d_MO_walk_318 (by decide) ?_
                    refine ab_less (L' := [some (vR 80), some (vR no), some (vz s), some (vz fm), some (vz ls), some (vz p), some (vz x), some (vz en), some (vz (m + (-1))), some (vz 0), none, none]) (fun i v h => by rcases i with _ | _ | _ | _ | _ | _ | _ | _ | _ | _ | _ | _ | i <;> first | exact h | (simp at h)) ?_
                    exact ih (p := p) (k := x) (en := en) (m := (m + (-1))) (go_ := 0) (m_trail := t26) (Z := (zu Z x 1)) (SP := SP27) (PL := PL) (PT := PT) (TS := TS) (TO := TO) h80 h138 h142 h143 h140 h141 h144 hno h118 h119 h120 h121 h122 h123 h124 h85 (by omega) (rgs_zu jz (by omega)) hq9 jpt jts jto (fun j a c => jpl j a (by omega)) (fun _ _ => ⟨by omega, dfs_new hdf hx_.symm (by omega) (fun _ _ _ => rfl) (by first | exact nsd_no0 (by omega) (by have a1 := hl1; have a2 := hl2; omega) | exact nsd_no1 (by omega) hmc (by rw [← hpp]; exact hq16) (fun q => by have a1 := hl1; have a2 := hl2; first | omega | (exact absurd (by rw [hpp]; exact q.2.2) hb0))) (fun h => absurd h (by omega)) (fun h => absurd h (by omega)) (fun h _ => absurd h (by omega))⟩) (fun h => absurd h (by decide)) (fun h => by omega) (by rw [show (m + (-1)) = m - 1 by omega]; exact wlB_k (hcu_.stays hnt (fun k a c => jsb k a (by omega)) jsg (by omega) (by omega) hhw (by omega) hmc (by rw [← hpp]; exact hq16) (fun q => by have a1 := hl1; have a2 := hl2; first | omega)) ⟨by omega, by omega⟩) hfr hlen hsl (by omega) hk0
                  · refine ab_iload d_MO_walk_241 rfl ?_
                    refine zz_if_lt (tgt := 256) d_MO_walk_243 (by decide) (by omega) (fun c94 => ?_) (fun c94 => ?_)
                    · have hnx_ := hsg_.2.1 (by omega) (by omega)
                      have hl1_ := hl1
                      have hl2_ := hl2
                      refine ab_aload_n d_MO_walk_256 rfl ?_
                      refine ab_iload d_MO_walk_257 rfl ?_
                      refine ab_iload d_MO_walk_259 rfl ?_
                      refine zz_iadd d_MO_walk_261 ?_
                      refine ab_aload_n d_MO_walk_262 rfl ?_
                      refine ab_getf (fs := mof m_thrown m_taped m_length m_out m_wide m_gathered m_sets m_ranges m_nodes m_at m_flags m_fault m_place m_numbered m_depth m_value m_isNot m_least0 m_most0 m_slot m_work m_got m_rowMany m_charAt m_charWide t26 m_isMatch m_matchGroups m_allFrom m_allBefore m_founds m_pieces m_writtenMany m_templateWide m_tooMuch) f_MO_131 d_MO_walk_263 h80.2.2 rfl ?_
                      refine ab_iload d_MO_walk_266 rfl ?_
                      refine zz_iald d_MO_walk_268 h119 (by omega) ?_
                      refine ab_callS (d' := d - 1) (as := [vR no, vz (p + v15), vz (A_next ((12500 * s) + x))]) (st := []) (z_MO_bit (o := o) (a := no) (l := lno) (A := NO) (p := (p + v15)) (k := (A_next ((12500 * s) + x))) hno (by omega)) (fun oc G2 h => by rcases h with ⟨h, _⟩ | ⟨h, _⟩ <;> exact ⟨_, h⟩) (by omega) m_MO_bit ml_MO_528 st_MO_bit (Nat.le_of_ble_eq_true rfl) d_MO_walk_269 rfl ?_
                      intro v G95 hq
                      rcases hq with ⟨hv, hGe, hq96⟩ | ⟨hv, hGe, hq97⟩
                      · cases hv
                        rw [hGe]
                        change ab_W _ _ _ G14 272 [some (vR 80), some (vR no), some (vz s), some (vz fm), some (vz ls), some (vz p), some (vz x), some (vz en), some (vz (m + (-1))), some (vz go_), some (vz ((12500 * s) + x)), some (vz v15)] [vz 1] _
                        refine zz_if_eq (tgt := 279) d_MO_walk_272 (by decide) (by decide) (fun c98 => absurd c98 (by decide)) (fun c98 => ?_)
                        refine zz_iconst d_MO_walk_275 ?_
                        refine ab_goto (tgt := 280) d_MO_walk_276 (by decide) ?_
                        refine ab_istore d_MO_walk_280 (Nat.le_of_ble_eq_true rfl) (Nat.le_of_ble_eq_true rfl) rfl ?_
                        change ab_W _ _ _ G14 282 [some (vR 80), some (vR no), some (vz s), some (vz fm), some (vz ls), some (vz p), some (vz x), some (vz en), some (vz (m + (-1))), some (vz 1), some (vz ((12500 * s) + x)), some (vz v15)] [] _
                        refine ab_iload d_MO_walk_282 rfl ?_
                        refine zz_if_eq (tgt := 318) d_MO_walk_284 (by decide) (by decide) (fun c99 => absurd c99 (by decide)) (fun c99 => ?_)
                        refine ab_aload_n d_MO_walk_287 rfl ?_
                        refine ab_getf (fs := mof m_thrown m_taped m_length m_out m_wide m_gathered m_sets m_ranges m_nodes m_at m_flags m_fault m_place m_numbered m_depth m_value m_isNot m_least0 m_most0 m_slot m_work m_got m_rowMany m_charAt m_charWide t26 m_isMatch m_matchGroups m_allFrom m_allBefore m_founds m_pieces m_writtenMany m_templateWide m_tooMuch) f_MO_131 d_MO_walk_288 h80.2.2 rfl ?_
                        refine ab_iload d_MO_walk_291 rfl ?_
                        refine zz_iald d_MO_walk_293 h119 (by omega) ?_
                        refine ab_istore d_MO_walk_294 (Nat.le_of_ble_eq_true rfl) (Nat.le_of_ble_eq_true rfl) rfl ?_
                        change ab_W _ _ _ G14 296 [some (vR 80), some (vR no), some (vz s), some (vz fm), some (vz ls), some (vz p), some (vz (A_next ((12500 * s) + x))), some (vz en), some (vz (m + (-1))), some (vz 1), some (vz ((12500 * s) + x)), some (vz v15)] [] _
                        refine ab_iload d_MO_walk_296 rfl ?_
                        refine ab_iload d_MO_walk_298 rfl ?_
                        refine zz_iadd d_MO_walk_300 ?_
                        refine ab_istore d_MO_walk_301 (Nat.le_of_ble_eq_true rfl) (Nat.le_of_ble_eq_true rfl) rfl ?_
                        change ab_W _ _ _ G14 303 [some (vR 80), some (vR no), some (vz s), some (vz fm), some (vz ls), some (vz (p + v15)), some (vz (A_next ((12500 * s) + x))), some (vz en), some (vz (m + (-1))), some (vz 1), some (vz ((12500 * s) + x)), some (vz v15)] [] _
                        refine ab_goto (tgt := 318) d_MO_walk_303 (by decide) ?_
                        refine ab_goto (tgt := 103) d_MO_walk_318 (by decide) ?_
                        refine ab_less (L' := [some (vR 80), some (vR no), some (vz s), some (vz fm), some (vz ls), some (vz (p + v15)), some (vz (A_next ((12500 * s) + x))), some (vz en), some (vz (m + (-1))), some (vz 1), none, none]) (fun i v h => by rcases i with _ | _ | _ | _ | _ | _ | _ | _ | _ | _ | _ | _ | i <;> first | exact h | (simp at h)) ?_
                        exact ih (p := (p + v15)) (k := (A_next ((12500 * s) + x))) (en := en) (m := (m + (-1))) (go_ := 1) (m_trail := t26) (Z := (zu Z x 1)) (SP := SP27) (PL := PL) (PT := PT) (TS := TS) (TO := TO) h80 h138 h142 h143 h140 h141 h144 hno h118 h119 h120 h121 h122 h123 h124 h85 (by omega) (rgs_zu jz (by omega)) hq9 jpt jts jto (fun j a c => jpl j a (by omega)) (fun h => absurd h (by decide)) (fun _ => ⟨by omega, by have a1 := hl1; have a2 := hl2; omega, by omega, by omega, hq96, by omega⟩) (fun h => by omega) (by rw [hpp]; exact wlB_g (hcu_.goes hnt (fun k a c => jsb k a (by omega)) jsg (by omega) (by omega) hhw hmc (by rw [← hpp]; exact hq16) (by omega) (by have a1 := hl1; have a2 := hl2; omega) (by rw [← hpp]; exact hq96)) ⟨rfl, by omega⟩) hfr hlen hsl (by omega) hk0
                      · cases hv
                        rw [hGe]
                        change ab_W _ _ _ G14 272 [some (vR 80), some (vR no), some (vz s), some (vz fm), some (vz ls), some (vz p), some (vz x), some (vz en), some (vz (m + (-1))), some (vz go_), some (vz ((12500 * s) + x)), some (vz v15)] [vz 0] _
                        refine zz_if_eq (tgt := 279) d_MO_walk_272 (by decide) (by decide) (fun c100 => ?_) (fun c100 => absurd c100 (by decide))
                        refine zz_iconst d_MO_walk_279 ?_
                        refine ab_istore d_MO_walk_280 (Nat.le_of_ble_eq_true rfl) (Nat.le_of_ble_eq_true rfl) rfl ?_
                        change ab_W _ _ _ G14 282 [some (vR 80), some (vR no), some (vz s), some (vz fm), some (vz ls), some (vz p), some (vz x), some (vz en), some (vz (m + (-1))), some (vz 0), some (vz ((12500 * s) + x)), some (vz v15)] [] _
                        refine ab_iload d_MO_walk_282 rfl ?_
                        refine zz_if_eq (tgt := 318) d_MO_walk_284 (by decide) (by decide) (fun c101 => ?_) (fun c101 => absurd c101 (by decide))
                        refine ab_goto (tgt := 103) d_MO_walk_318 (by decide) ?_
                        refine ab_less (L' := [some (vR 80), some (vR no), some (vz s), some (vz fm), some (vz ls), some (vz p), some (vz x), some (vz en), some (vz (m + (-1))), some (vz 0), none, none]) (fun i v h => by rcases i with _ | _ | _ | _ | _ | _ | _ | _ | _ | _ | _ | _ | i <;> first | exact h | (simp at h)) ?_
                        exact ih (p := p) (k := x) (en := en) (m := (m + (-1))) (go_ := 0) (m_trail := t26) (Z := (zu Z x 1)) (SP := SP27) (PL := PL) (PT := PT) (TS := TS) (TO := TO) h80 h138 h142 h143 h140 h141 h144 hno h118 h119 h120 h121 h122 h123 h124 h85 (by omega) (rgs_zu jz (by omega)) hq9 jpt jts jto (fun j a c => jpl j a (by omega)) (fun _ _ => ⟨by omega, dfs_new hdf hx_.symm (by omega) (fun _ _ _ => rfl) (by first | exact nsd_no0 (by omega) (by have a1 := hl1; have a2 := hl2; omega) | exact nsd_no1 (by omega) hmc (by rw [← hpp]; exact hq16) (fun q => by have a1 := hl1; have a2 := hl2; first | omega | (exact absurd (by rw [hpp]; exact q.2.2) hq97))) (fun h => absurd h (by omega)) (fun h => absurd h (by omega)) (fun h _ => absurd h (by omega))⟩) (fun h => absurd h (by decide)) (fun h => by omega) (by rw [show (m + (-1)) = m - 1 by omega]; exact wlB_k (hcu_.stays hnt (fun k a c => jsb k a (by omega)) jsg (by omega) (by omega) hhw (by omega) hmc (by rw [← hpp]; exact hq16) (fun q => by have a1 := hl1; have a2 := hl2; first | omega | (exact absurd (by rw [hpp]; exact q.2.2) hq97))) ⟨by omega, by omega⟩) hfr hlen hsl (by omega) hk0
                    · refine ab_iload d_MO_walk_246 rfl ?_
                      refine ab_iload d_MO_walk_248 rfl ?_
                      refine zz_iadd d_MO_walk_250 ?_
                      refine ab_iload d_MO_walk_251 rfl ?_
                      refine zz_icmp_gt (tgt := 279) d_MO_walk_253 (by decide) (by omega) (by omega) (fun c102 => ?_) (fun c102 => ?_)
                      · refine zz_iconst d_MO_walk_279 ?_
                        refine ab_istore d_MO_walk_280 (Nat.le_of_ble_eq_true rfl) (Nat.le_of_ble_eq_true rfl) rfl ?_
                        change ab_W _ _ _ G14 282 [some (vR 80), some (vR no), some (vz s), some (vz fm), some (vz ls), some (vz p), some (vz x), some (vz en), some (vz (m + (-1))), some (vz 0), some (vz ((12500 * s) + x)), some (vz v15)] [] _
                        refine ab_iload d_MO_walk_282 rfl ?_
                        refine zz_if_eq (tgt := 318) d_MO_walk_284 (by decide) (by decide) (fun c103 => ?_) (fun c103 => absurd c103 (by decide))
                        refine ab_goto (tgt := 103) d_MO_walk_318 (by decide) ?_
                        refine ab_less (L' := [some (vR 80), some (vR no), some (vz s), some (vz fm), some (vz ls), some (vz p), some (vz x), some (vz en), some (vz (m + (-1))), some (vz 0), none, none]) (fun i v h => by rcases i with _ | _ | _ | _ | _ | _ | _ | _ | _ | _ | _ | _ | i <;> first | exact h | (simp at h)) ?_
                        exact ih (p := p) (k := x) (en := en) (m := (m + (-1))) (go_ := 0) (m_trail := t26) (Z := (zu Z x 1)) (SP := SP27) (PL := PL) (PT := PT) (TS := TS) (TO := TO) h80 h138 h142 h143 h140 h141 h144 hno h118 h119 h120 h121 h122 h123 h124 h85 (by omega) (rgs_zu jz (by omega)) hq9 jpt jts jto (fun j a c => jpl j a (by omega)) (fun _ _ => ⟨by omega, dfs_new hdf hx_.symm (by omega) (fun _ _ _ => rfl) (by first | exact nsd_no0 (by omega) (by have a1 := hl1; have a2 := hl2; omega) | exact nsd_no1 (by omega) hmc (by rw [← hpp]; exact hq16) (fun q => by have a1 := hl1; have a2 := hl2; first | omega | (exact absurd (by rw [hpp]; exact q.2.2) hb0))) (fun h => absurd h (by omega)) (fun h => absurd h (by omega)) (fun h _ => absurd h (by omega))⟩) (fun h => absurd h (by decide)) (fun h => by omega) (by rw [show (m + (-1)) = m - 1 by omega]; exact wlB_k (hcu_.stays hnt (fun k a c => jsb k a (by omega)) jsg (by omega) (by omega) hhw (by omega) hmc (by rw [← hpp]; exact hq16) (fun q => by have a1 := hl1; have a2 := hl2; first | omega)) ⟨by omega, by omega⟩) hfr hlen hsl (by omega) hk0
                      · have hnx_ := hsg_.2.1 (by omega) (by omega)
                        have hl1_ := hl1
                        have hl2_ := hl2
                        refine ab_aload_n d_MO_walk_256 rfl ?_
                        refine ab_iload d_MO_walk_257 rfl ?_
                        refine ab_iload d_MO_walk_259 rfl ?_
                        refine zz_iadd d_MO_walk_261 ?_
                        refine ab_aload_n d_MO_walk_262 rfl ?_
                        refine ab_getf (fs := mof m_thrown m_taped m_length m_out m_wide m_gathered m_sets m_ranges m_nodes m_at m_flags m_fault m_place m_numbered m_depth m_value m_isNot m_least0 m_most0 m_slot m_work m_got m_rowMany m_charAt m_charWide t26 m_isMatch m_matchGroups m_allFrom m_allBefore m_founds m_pieces m_writtenMany m_templateWide m_tooMuch) f_MO_131 d_MO_walk_263 h80.2.2 rfl ?_
                        refine ab_iload d_MO_walk_266 rfl ?_
                        refine zz_iald d_MO_walk_268 h119 (by omega) ?_
                        refine ab_callS (d' := d - 1) (as := [vR no, vz (p + v15), vz (A_next ((12500 * s) + x))]) (st := []) (z_MO_bit (o := o) (a := no) (l := lno) (A := NO) (p := (p + v15)) (k := (A_next ((12500 * s) + x))) hno (by omega)) (fun oc G2 h => by rcases h with ⟨h, _⟩ | ⟨h, _⟩ <;> exact ⟨_, h⟩) (by omega) m_MO_bit ml_MO_528 st_MO_bit (Nat.le_of_ble_eq_true rfl) d_MO_walk_269 rfl ?_
                        intro v G104 hq
                        rcases hq with ⟨hv, hGe, hq105⟩ | ⟨hv, hGe, hq106⟩
                        · cases hv
                          rw [hGe]
                          change ab_W _ _ _ G14 272 [some (vR 80), some (vR no), some (vz s), some (vz fm), some (vz ls), some (vz p), some (vz x), some (vz en), some (vz (m + (-1))), some (vz go_), some (vz ((12500 * s) + x)), some (vz v15)] [vz 1] _
                          refine zz_if_eq (tgt := 279) d_MO_walk_272 (by decide) (by decide) (fun c107 => absurd c107 (by decide)) (fun c107 => ?_)
                          refine zz_iconst d_MO_walk_275 ?_
                          refine ab_goto (tgt := 280) d_MO_walk_276 (by decide) ?_
                          refine ab_istore d_MO_walk_280 (Nat.le_of_ble_eq_true rfl) (Nat.le_of_ble_eq_true rfl) rfl ?_
                          change ab_W _ _ _ G14 282 [some (vR 80), some (vR no), some (vz s), some (vz fm), some (vz ls), some (vz p), some (vz x), some (vz en), some (vz (m + (-1))), some (vz 1), some (vz ((12500 * s) + x)), some (vz v15)] [] _
                          refine ab_iload d_MO_walk_282 rfl ?_
                          refine zz_if_eq (tgt := 318) d_MO_walk_284 (by decide) (by decide) (fun c108 => absurd c108 (by decide)) (fun c108 => ?_)
                          refine ab_aload_n d_MO_walk_287 rfl ?_
                          refine ab_getf (fs := mof m_thrown m_taped m_length m_out m_wide m_gathered m_sets m_ranges m_nodes m_at m_flags m_fault m_place m_numbered m_depth m_value m_isNot m_least0 m_most0 m_slot m_work m_got m_rowMany m_charAt m_charWide t26 m_isMatch m_matchGroups m_allFrom m_allBefore m_founds m_pieces m_writtenMany m_templateWide m_tooMuch) f_MO_131 d_MO_walk_288 h80.2.2 rfl ?_
                          refine ab_iload d_MO_walk_291 rfl ?_
                          refine zz_iald d_MO_walk_293 h119 (by omega) ?_
                          refine ab_istore d_MO_walk_294 (Nat.le_of_ble_eq_true rfl) (Nat.le_of_ble_eq_true rfl) rfl ?_
                          change ab_W _ _ _ G14 296 [some (vR 80), some (vR no), some (vz s), some (vz fm), some (vz ls), some (vz p), some (vz (A_next ((12500 * s) + x))), some (vz en), some (vz (m + (-1))), some (vz 1), some (vz ((12500 * s) + x)), some (vz v15)] [] _
                          refine ab_iload d_MO_walk_296 rfl ?_
                          refine ab_iload d_MO_walk_298 rfl ?_
                          refine zz_iadd d_MO_walk_300 ?_
                          refine ab_istore d_MO_walk_301 (Nat.le_of_ble_eq_true rfl) (Nat.le_of_ble_eq_true rfl) rfl ?_
                          change ab_W _ _ _ G14 303 [some (vR 80), some (vR no), some (vz s), some (vz fm), some (vz ls), some (vz (p + v15)), some (vz (A_next ((12500 * s) + x))), some (vz en), some (vz (m + (-1))), some (vz 1), some (vz ((12500 * s) + x)), some (vz v15)] [] _
                          refine ab_goto (tgt := 318) d_MO_walk_303 (by decide) ?_
                          refine ab_goto (tgt := 103) d_MO_walk_318 (by decide) ?_
                          refine ab_less (L' := [some (vR 80), some (vR no), some (vz s), some (vz fm), some (vz ls), some (vz (p + v15)), some (vz (A_next ((12500 * s) + x))), some (vz en), some (vz (m + (-1))), some (vz 1), none, none]) (fun i v h => by rcases i with _ | _ | _ | _ | _ | _ | _ | _ | _ | _ | _ | _ | i <;> first | exact h | (simp at h)) ?_
                          exact ih (p := (p + v15)) (k := (A_next ((12500 * s) + x))) (en := en) (m := (m + (-1))) (go_ := 1) (m_trail := t26) (Z := (zu Z x 1)) (SP := SP27) (PL := PL) (PT := PT) (TS := TS) (TO := TO) h80 h138 h142 h143 h140 h141 h144 hno h118 h119 h120 h121 h122 h123 h124 h85 (by omega) (rgs_zu jz (by omega)) hq9 jpt jts jto (fun j a c => jpl j a (by omega)) (fun h => absurd h (by decide)) (fun _ => ⟨by omega, by have a1 := hl1; have a2 := hl2; omega, by omega, by omega, hq105, by omega⟩) (fun h => by omega) (by rw [hpp]; exact wlB_g (hcu_.goes hnt (fun k a c => jsb k a (by omega)) jsg (by omega) (by omega) hhw hmc (by rw [← hpp]; exact hq16) (by omega) (by have a1 := hl1; have a2 := hl2; omega) (by rw [← hpp]; exact hq105)) ⟨rfl, by omega⟩) hfr hlen hsl (by omega) hk0
                        · cases hv
                          rw [hGe]
                          change ab_W _ _ _ G14 272 [some (vR 80), some (vR no), some (vz s), some (vz fm), some (vz ls), some (vz p), some (vz x), some (vz en), some (vz (m + (-1))), some (vz go_), some (vz ((12500 * s) + x)), some (vz v15)] [vz 0] _
                          refine zz_if_eq (tgt := 279) d_MO_walk_272 (by decide) (by decide) (fun c109 => ?_) (fun c109 => absurd c109 (by decide))
                          refine zz_iconst d_MO_walk_279 ?_
                          refine ab_istore d_MO_walk_280 (Nat.le_of_ble_eq_true rfl) (Nat.le_of_ble_eq_true rfl) rfl ?_
                          change ab_W _ _ _ G14 282 [some (vR 80), some (vR no), some (vz s), some (vz fm), some (vz ls), some (vz p), some (vz x), some (vz en), some (vz (m + (-1))), some (vz 0), some (vz ((12500 * s) + x)), some (vz v15)] [] _
                          refine ab_iload d_MO_walk_282 rfl ?_
                          refine zz_if_eq (tgt := 318) d_MO_walk_284 (by decide) (by decide) (fun c110 => ?_) (fun c110 => absurd c110 (by decide))
                          refine ab_goto (tgt := 103) d_MO_walk_318 (by decide) ?_
                          refine ab_less (L' := [some (vR 80), some (vR no), some (vz s), some (vz fm), some (vz ls), some (vz p), some (vz x), some (vz en), some (vz (m + (-1))), some (vz 0), none, none]) (fun i v h => by rcases i with _ | _ | _ | _ | _ | _ | _ | _ | _ | _ | _ | _ | i <;> first | exact h | (simp at h)) ?_
                          exact ih (p := p) (k := x) (en := en) (m := (m + (-1))) (go_ := 0) (m_trail := t26) (Z := (zu Z x 1)) (SP := SP27) (PL := PL) (PT := PT) (TS := TS) (TO := TO) h80 h138 h142 h143 h140 h141 h144 hno h118 h119 h120 h121 h122 h123 h124 h85 (by omega) (rgs_zu jz (by omega)) hq9 jpt jts jto (fun j a c => jpl j a (by omega)) (fun _ _ => ⟨by omega, dfs_new hdf hx_.symm (by omega) (fun _ _ _ => rfl) (by first | exact nsd_no0 (by omega) (by have a1 := hl1; have a2 := hl2; omega) | exact nsd_no1 (by omega) hmc (by rw [← hpp]; exact hq16) (fun q => by have a1 := hl1; have a2 := hl2; first | omega | (exact absurd (by rw [hpp]; exact q.2.2) hq106))) (fun h => absurd h (by omega)) (fun h => absurd h (by omega)) (fun h _ => absurd h (by omega))⟩) (fun h => absurd h (by decide)) (fun h => by omega) (by rw [show (m + (-1)) = m - 1 by omega]; exact wlB_k (hcu_.stays hnt (fun k a c => jsb k a (by omega)) jsg (by omega) (by omega) hhw (by omega) hmc (by rw [← hpp]; exact hq16) (fun q => by have a1 := hl1; have a2 := hl2; first | omega | (exact absurd (by rw [hpp]; exact q.2.2) hq106))) ⟨by omega, by omega⟩) hfr hlen hsl (by omega) hk0
            · refine ab_iload d_MO_walk_192 rfl ?_
              refine zz_if_lt (tgt := 204) d_MO_walk_194 (by decide) (by omega) (fun c111 => ?_) (fun c111 => ?_)
              · refine zz_iconst d_MO_walk_204 ?_
                refine ab_goto (tgt := 209) d_MO_walk_205 (by decide) ?_
                refine ab_istore d_MO_walk_209 (Nat.le_of_ble_eq_true rfl) (Nat.le_of_ble_eq_true rfl) rfl ?_
                change ab_W _ _ _ G14 211 [some (vR 80), some (vR no), some (vz s), some (vz fm), some (vz ls), some (vz p), some (vz x), some (vz 1), some (vz (m + (-1))), some (vz go_), some (vz ((12500 * s) + x)), some (vz v15)] [] _
                refine ab_goto (tgt := 318) d_MO_walk_211 (by decide) ?_
                refine ab_goto (tgt := 103) d_MO_walk_318 (by decide) ?_
                refine ab_less (L' := [some (vR 80), some (vR no), some (vz s), some (vz fm), some (vz ls), some (vz p), some (vz x), some (vz 1), some (vz (m + (-1))), some (vz go_), none, none]) (fun i v h => by rcases i with _ | _ | _ | _ | _ | _ | _ | _ | _ | _ | _ | _ | i <;> first | exact h | (simp at h)) ?_
                exact ih (p := p) (k := x) (en := 1) (m := (m + (-1))) (go_ := go_) (m_trail := t26) (Z := (zu Z x 1)) (SP := SP27) (PL := PL) (PT := PT) (TS := TS) (TO := TO) h80 h138 h142 h143 h140 h141 h144 hno h118 h119 h120 h121 h122 h123 h124 h85 (by omega) (rgs_zu jz (by omega)) hq9 jpt jts jto (fun j a c => jpl j a (by omega)) (fun _ _ => ⟨by omega, dfs_new hdf hx_.symm (by omega) (fun _ _ _ => rfl) (by first | exact nsd_no0 (by omega) (by have a1 := hl1; have a2 := hl2; omega) | exact nsd_no1 (by omega) hmc (by rw [← hpp]; exact hq16) (fun q => by have a1 := hl1; have a2 := hl2; first | omega | (exact absurd (by rw [hpp]; exact q.2.2) hb0))) (fun h => absurd h (by omega)) (fun h => absurd h (by omega)) (fun h _ => absurd h (by omega))⟩) (fun h => by omega) (fun _ => ⟨by omega, by omega⟩) (wlB_e (hcu_.fin (by omega) (by have a1 := hl1; have a2 := hl2; have a3 := hhw; unfold hwA at a3; unfold acc; omega)) ⟨by omega, by omega⟩) hfr hlen hsl (by omega) hk0
              · refine ab_iload d_MO_walk_197 rfl ?_
                refine ab_iload d_MO_walk_199 rfl ?_
                refine zz_icmp_ne (tgt := 208) d_MO_walk_201 (by decide) (by omega) (by omega) (fun c112 => ?_) (fun c112 => ?_)
                · refine zz_iconst d_MO_walk_208 ?_
                  refine ab_istore d_MO_walk_209 (Nat.le_of_ble_eq_true rfl) (Nat.le_of_ble_eq_true rfl) rfl ?_
                  change ab_W _ _ _ G14 211 [some (vR 80), some (vR no), some (vz s), some (vz fm), some (vz ls), some (vz p), some (vz x), some (vz 0), some (vz (m + (-1))), some (vz go_), some (vz ((12500 * s) + x)), some (vz v15)] [] _
                  refine ab_goto (tgt := 318) d_MO_walk_211 (by decide) ?_
                  refine ab_goto (tgt := 103) d_MO_walk_318 (by decide) ?_
                  refine ab_less (L' := [some (vR 80), some (vR no), some (vz s), some (vz fm), some (vz ls), some (vz p), some (vz x), some (vz 0), some (vz (m + (-1))), some (vz go_), none, none]) (fun i v h => by rcases i with _ | _ | _ | _ | _ | _ | _ | _ | _ | _ | _ | _ | i <;> first | exact h | (simp at h)) ?_
                  exact ih (p := p) (k := x) (en := 0) (m := (m + (-1))) (go_ := go_) (m_trail := t26) (Z := (zu Z x 1)) (SP := SP27) (PL := PL) (PT := PT) (TS := TS) (TO := TO) h80 h138 h142 h143 h140 h141 h144 hno h118 h119 h120 h121 h122 h123 h124 h85 (by omega) (rgs_zu jz (by omega)) hq9 jpt jts jto (fun j a c => jpl j a (by omega)) (fun _ _ => ⟨by omega, dfs_new hdf hx_.symm (by omega) (fun _ _ _ => rfl) (by first | exact nsd_no0 (by omega) (by have a1 := hl1; have a2 := hl2; omega) | exact nsd_no1 (by omega) hmc (by rw [← hpp]; exact hq16) (fun q => by have a1 := hl1; have a2 := hl2; first | omega | (exact absurd (by rw [hpp]; exact q.2.2) hb0))) (fun h => absurd h (by omega)) (fun h => absurd h (by omega)) (fun h _ => absurd h (by omega))⟩) (fun h => by omega) (fun h => by omega) (by rw [show (m + (-1)) = m - 1 by omega]; exact wlB_k (hcu_.miss hnt (by omega) hhw (by omega) (by have a1 := hl1; have a2 := hl2; have a3 := hhw; unfold hwA at a3; unfold acc; omega)) ⟨by omega, by omega⟩) hfr hlen hsl (by omega) hk0
                · refine zz_iconst d_MO_walk_204 ?_
                  refine ab_goto (tgt := 209) d_MO_walk_205 (by decide) ?_
                  refine ab_istore d_MO_walk_209 (Nat.le_of_ble_eq_true rfl) (Nat.le_of_ble_eq_true rfl) rfl ?_
                  change ab_W _ _ _ G14 211 [some (vR 80), some (vR no), some (vz s), some (vz fm), some (vz ls), some (vz p), some (vz x), some (vz 1), some (vz (m + (-1))), some (vz go_), some (vz ((12500 * s) + x)), some (vz v15)] [] _
                  refine ab_goto (tgt := 318) d_MO_walk_211 (by decide) ?_
                  refine ab_goto (tgt := 103) d_MO_walk_318 (by decide) ?_
                  refine ab_less (L' := [some (vR 80), some (vR no), some (vz s), some (vz fm), some (vz ls), some (vz p), some (vz x), some (vz 1), some (vz (m + (-1))), some (vz go_), none, none]) (fun i v h => by rcases i with _ | _ | _ | _ | _ | _ | _ | _ | _ | _ | _ | _ | i <;> first | exact h | (simp at h)) ?_
                  exact ih (p := p) (k := x) (en := 1) (m := (m + (-1))) (go_ := go_) (m_trail := t26) (Z := (zu Z x 1)) (SP := SP27) (PL := PL) (PT := PT) (TS := TS) (TO := TO) h80 h138 h142 h143 h140 h141 h144 hno h118 h119 h120 h121 h122 h123 h124 h85 (by omega) (rgs_zu jz (by omega)) hq9 jpt jts jto (fun j a c => jpl j a (by omega)) (fun _ _ => ⟨by omega, dfs_new hdf hx_.symm (by omega) (fun _ _ _ => rfl) (by first | exact nsd_no0 (by omega) (by have a1 := hl1; have a2 := hl2; omega) | exact nsd_no1 (by omega) hmc (by rw [← hpp]; exact hq16) (fun q => by have a1 := hl1; have a2 := hl2; first | omega | (exact absurd (by rw [hpp]; exact q.2.2) hb0))) (fun h => absurd h (by omega)) (fun h => absurd h (by omega)) (fun h _ => absurd h (by omega))⟩) (fun h => by omega) (fun _ => ⟨by omega, by omega⟩) (wlB_e (hcu_.fin (by omega) (by have a1 := hl1; have a2 := hl2; have a3 := hhw; unfold hwA at a3; unfold acc; omega)) ⟨by omega, by omega⟩) hfr hlen hsl (by omega) hk0
          · refine ab_goto (tgt := 103) d_MO_walk_151 (by decide) ?_
            exact ih (p := p) (k := x) (en := en) (m := (m + (-1))) (go_ := go_) (m_trail := t26) (Z := Z) (SP := SP27) (PL := PL) (PT := PT) (TS := TS) (TO := TO) h80 h138 h142 h143 h140 h141 h144 hno h118 h119 h120 h121 h122 h123 h124 h85 (by omega) jz hq9 jpt jts jto (fun j a c => jpl j a (by omega)) (fun _ _ => ⟨by omega, by rw [show (m + (-1)) = m - 1 by omega]; exact dfs_pop hdf hx_.symm (by omega)⟩) (fun h => by omega) (fun h => by omega) (by rw [show (m + (-1)) = m - 1 by omega]; exact wlB_k (hcu_.seen hnt (by omega) hhw (by omega)) ⟨by omega, by omega⟩) hfr hlen hsl (by omega) hk0
