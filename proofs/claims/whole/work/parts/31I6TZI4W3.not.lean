set_option maxRecDepth 100000 in
set_option maxHeartbeats 4000000 in
theorem y_MO_note_27 {X : ab_X} {d : Nat} {Q : Outcome → ab_G → Prop} {o : Nat → Nat} {G0 : ab_G} {m_length : Int} {no : Nat} {lno : Nat} {s : Int} {fr : Int} {to : Int} {al : Int} {n : Int} {p : Int} {NO0 : Int → Int} (n18 : ab_n0 = 18) (cno : 334 ≤ lno ∧ lno ≤ 336) (cle : 0 ≤ m_length ∧ m_length ≤ 2000) (cp : 0 ≤ p ∧ p ≤ fr ∧ fr ≤ m_length) (hd : 1 ≤ d) : ∀ (mz : Nat) {G : ab_G} {i_ : Int} {NO : Int → Int}, (cc o G no lno (zl 392196 NO)) → (0 ≤ i_ ∧ i_ ≤ 196) → (nclr NO p i_) → (nsame NO0 NO p) → (fx o o [lno] G0 G) → (G.length = G0.length) → (ab_slots G = ab_slots G0) → (Int.toNat (196 - i_) < mz) → (∀ (G2 : ab_G) (NO2 : Int → Int), (cc o G2 no lno (zl 392196 NO2)) → (nclr NO2 p 196) → (nsame NO0 NO2 p) → (fx o o [lno] G0 G2) → (G2.length = G0.length) → (ab_slots G2 = ab_slots G0) → ab_W X (ab_pl y_MO_note b_MO_note 13 none) d G2 53 [some (vR 80), some (vR no), some (vz s), some (vz fr), some (vz to), some (vz al), some (vz n), some (vz p), none, none, none, none, none] [] Q) → ab_W X (ab_pl y_MO_note b_MO_note 13 none) d G 27 [some (vR 80), some (vR no), some (vz s), some (vz fr), some (vz to), some (vz al), some (vz n), some (vz p), some (vz i_), none, none, none, none] [] Q := by
  intro mz
  induction mz with
  | zero => intro G i_ NO hno ci jc jsm hfr hlen hsl hm hk0; exact absurd hm (Nat.not_lt_zero _)
  | succ mz ih =>
    intro G i_ NO hno ci jc jsm hfr hlen hsl hm hk0
    refine ab_iload d_MO_note_27 rfl ?_
    refine zz_sipush d_MO_note_29 (by decide) ?_
    refine zz_icmp_ge (tgt := 53) d_MO_note_32 (by decide) (by omega) (by decide) (fun c1 => ?_) (fun c1 => ?_)
    · refine ab_less (L' := [some (vR 80), some (vR no), some (vz s), some (vz fr), some (vz to), some (vz al), some (vz n), some (vz p), none, none, none, none, none]) (fun i v h => by rcases i with _ | _ | _ | _ | _ | _ | _ | _ | _ | _ | _ | _ | _ | i <;> first | exact h | (simp at h)) ?_
      exact hk0 _ _ hno (by rw [show (196 : Int) = i_ by omega]; exact jc) (by exact jsm) hfr hlen hsl
    · refine ab_aload_n d_MO_note_35 rfl ?_
      refine zz_sipush d_MO_note_36 (by decide) ?_
      refine ab_iload d_MO_note_39 rfl ?_
      refine zz_imul d_MO_note_41 ?_
      refine ab_iload d_MO_note_42 rfl ?_
      refine zz_iadd d_MO_note_44 ?_
      refine zz_lconst d_MO_note_45 ?_
      change ab_W _ _ _ G 46 [some (vR 80), some (vR no), some (vz s), some (vz fr), some (vz to), some (vz al), some (vz n), some (vz p), some (vz i_), none, none, none, none] [vj 0, vz ((196 * p) + i_), vR no] _
      refine zz_last d_MO_note_46 hno (by omega) (hno.2.1 (by first | omega | exact (show 18 ≤ _ by omega))) ?_
      obtain ⟨G2, eG2⟩ : ∃ z : ab_G, z = List.set G no (zl 392196 (zu NO ((196 * p) + i_) 0)) := ⟨_, rfl⟩
      have hlen := (z_len eG2).trans hlen
      have hsl := (z_sl hno eG2 rfl).trans hsl
      have hfr := hfr.wr hno eG2 (by simp)
      have hno := hno.kept eG2
      change ab_W _ _ _ (List.set G no (zl 392196 (zu NO ((196 * p) + i_) 0))) 47 [some (vR 80), some (vR no), some (vz s), some (vz fr), some (vz to), some (vz al), some (vz n), some (vz p), some (vz i_), none, none, none, none] [] _
      rw [← eG2]
      refine zz_iinc d_MO_note_47 rfl (Nat.le_of_ble_eq_true rfl) (Nat.le_of_ble_eq_true rfl) rfl ?_
      change ab_W _ _ _ G2 50 [some (vR 80), some (vR no), some (vz s), some (vz fr), some (vz to), some (vz al), some (vz n), some (vz p), some (vz (i_ + 1)), none, none, none, none] [] _
      refine ab_goto (tgt := 27) d_MO_note_50 (by decide) ?_
      exact ih (i_ := (i_ + 1)) (NO := (zu NO ((196 * p) + i_) 0)) hno (by omega) (nclr_s jc) (nsame_wr jsm (by omega)) hfr hlen hsl (by omega) hk0
set_option maxRecDepth 100000 in
set_option maxHeartbeats 4000000 in
theorem y_MO_note_56 {X : ab_X} {d : Nat} {Q : Outcome → ab_G → Prop} {o : Nat → Nat} {G0 : ab_G} {m_thrown : Int} {m_taped : Int} {m_length : Int} {m_out : Int} {m_wide : Int} {m_gathered : Int} {m_sets : Int} {m_ranges : Int} {m_nodes : Int} {m_at : Int} {m_flags : Int} {m_fault : Int} {m_place : Int} {m_numbered : Int} {m_depth : Int} {m_value : Int} {m_isNot : Int} {m_least0 : Int} {m_most0 : Int} {m_slot : Int} {m_work : Int} {m_got : Int} {m_rowMany : Int} {m_charAt : Int} {m_charWide : Int} {m_trail : Int} {m_isMatch : Int} {m_matchGroups : Int} {m_allFrom : Int} {m_allBefore : Int} {m_founds : Int} {m_pieces : Int} {m_writtenMany : Int} {m_templateWide : Int} {m_tooMuch : Int} {A_subject : Int → Int} {A_step : Int → Int} {A_next : Int → Int} {A_more : Int → Int} {A_classAt : Int → Int} {A_classMany : Int → Int} {A_classLow : Int → Int} {A_classHigh : Int → Int} {no : Nat} {lno : Nat} {NO : Int → Int} {s : Int} {fr : Int} {to : Int} {al : Int} {n : Int} {p : Int} (n18 : ab_n0 = 18) (cno : 334 ≤ lno ∧ lno ≤ 336) (cle : 0 ≤ m_length ∧ m_length ≤ 2000) (cp : 0 ≤ p ∧ p ≤ fr ∧ fr ≤ m_length) (cs : 0 ≤ s ∧ s ≤ 5 ∧ 0 ≤ n ∧ n ≤ 12500 ∧ 0 ≤ al ∧ al ≤ 1) (jsg : sgood A_step A_next A_more A_classAt A_classMany (12500 * s) n) (jst : rgs A_step 75000 0 6) (jcl : rgs A_classLow 3600 0 1114111) (jch : rgs A_classHigh 3600 0 1114111) (cch : -1 ≤ m_charAt ∧ m_charAt ≤ 1114111 ∧ 1 ≤ m_charWide ∧ m_charWide ≤ 4) (clk : 0 ≤ m_charAt → p + m_charWide ≤ m_length) (hmc : mchr A_subject m_length p m_charAt m_charWide) (hd : 3 ≤ d) : ∀ (mz : Nat) {G : ab_G} {k : Int} {Z : Int → Int}, (cc o G 80 280 (ab_ob 12 (mof m_thrown m_taped m_length m_out m_wide m_gathered m_sets m_ranges m_nodes m_at m_flags m_fault m_place m_numbered m_depth m_value m_isNot m_least0 m_most0 m_slot m_work m_got m_rowMany m_charAt m_charWide m_trail m_isMatch m_matchGroups m_allFrom m_allBefore m_founds m_pieces m_writtenMany m_templateWide m_tooMuch))) → (cc o G no lno (zl 392196 NO)) → (cc o G 137 337 (zb 12500 Z)) → (cc o G 118 318 (za 75000 A_step)) → (cc o G 119 319 (za 75000 A_next)) → (cc o G 121 321 (za 75000 A_classAt)) → (cc o G 122 322 (za 75000 A_classMany)) → (cc o G 123 323 (za 3600 A_classLow)) → (cc o G 124 324 (za 3600 A_classHigh)) → (0 ≤ k ∧ k ≤ n) → (rgs Z 12500 0 1) → (nsz A_step A_next A_classAt A_classMany A_classLow A_classHigh A_subject NO m_length (12500 * s) fr al p Z k) → (nsc A_step A_next A_classAt A_classMany A_classLow A_classHigh A_subject NO m_length (12500 * s) fr al p Z k) → (fx o o [337] G0 G) → (G.length = G0.length) → (ab_slots G = ab_slots G0) → (Int.toNat (n - k) < mz) → (∀ (G2 : ab_G) (Z2 : Int → Int), (cc o G2 137 337 (zb 12500 Z2)) → (rgs Z2 12500 0 1) → (nsz A_step A_next A_classAt A_classMany A_classLow A_classHigh A_subject NO m_length (12500 * s) fr al p Z2 n) → (nsc A_step A_next A_classAt A_classMany A_classLow A_classHigh A_subject NO m_length (12500 * s) fr al p Z2 n) → (fx o o [337] G0 G2) → (G2.length = G0.length) → (ab_slots G2 = ab_slots G0) → ab_W X (ab_pl y_MO_note b_MO_note 13 none) d G2 171 [some (vR 80), some (vR no), some (vz s), some (vz fr), some (vz to), some (vz al), some (vz n), some (vz p), none, none, none, none, none] [] Q) → ab_W X (ab_pl y_MO_note b_MO_note 13 none) d G 56 [some (vR 80), some (vR no), some (vz s), some (vz fr), some (vz to), some (vz al), some (vz n), some (vz p), some (vz k), none, none, none, none] [] Q := by
  intro mz
  induction mz with
  | zero => intro G k Z h80 hno h137 h118 h119 h121 h122 h123 h124 ci jz jsd jsq hfr hlen hsl hm hk0; exact absurd hm (Nat.not_lt_zero _)
  | succ mz ih =>
    intro G k Z h80 hno h137 h118 h119 h121 h122 h123 h124 ci jz jsd jsq hfr hlen hsl hm hk0
    refine ab_iload d_MO_note_56 rfl ?_
    refine ab_iload d_MO_note_58 rfl ?_
    refine zz_icmp_ge (tgt := 171) d_MO_note_60 (by decide) (by omega) (by omega) (fun c1 => ?_) (fun c1 => ?_)
    · refine ab_less (L' := [some (vR 80), some (vR no), some (vz s), some (vz fr), some (vz to), some (vz al), some (vz n), some (vz p), none, none, none, none, none]) (fun i v h => by rcases i with _ | _ | _ | _ | _ | _ | _ | _ | _ | _ | _ | _ | _ | i <;> first | exact h | (simp at h)) ?_
      exact hk0 _ _ h137 (by exact jz) (by exact (show k = n by omega) ▸ jsd) (by exact (show k = n by omega) ▸ jsq) hfr hlen hsl
    · refine ab_aload_n d_MO_note_63 rfl ?_
      refine zz_sipush d_MO_note_64 (by decide) ?_
      refine ab_iload_n d_MO_note_67 rfl ?_
      refine zz_imul d_MO_note_68 ?_
      refine ab_iload d_MO_note_69 rfl ?_
      refine zz_iadd d_MO_note_71 ?_
      refine ab_iload d_MO_note_72 rfl ?_
      refine ab_callV (d' := d - 1) (as := [vz ((12500 * s) + k), vz p]) (st := []) (r := _) (z_MO_taken (o := o) (m_thrown := m_thrown) (m_taped := m_taped) (m_length := m_length) (m_out := m_out) (m_wide := m_wide) (m_gathered := m_gathered) (m_sets := m_sets) (m_ranges := m_ranges) (m_nodes := m_nodes) (m_at := m_at) (m_flags := m_flags) (m_fault := m_fault) (m_place := m_place) (m_numbered := m_numbered) (m_depth := m_depth) (m_value := m_value) (m_isNot := m_isNot) (m_least0 := m_least0) (m_most0 := m_most0) (m_slot := m_slot) (m_work := m_work) (m_got := m_got) (m_rowMany := m_rowMany) (m_charAt := m_charAt) (m_charWide := m_charWide) (m_trail := m_trail) (m_isMatch := m_isMatch) (m_matchGroups := m_matchGroups) (m_allFrom := m_allFrom) (m_allBefore := m_allBefore) (m_founds := m_founds) (m_pieces := m_pieces) (m_writtenMany := m_writtenMany) (m_templateWide := m_templateWide) (m_tooMuch := m_tooMuch) (A_step := A_step) (A_classAt := A_classAt) (A_classMany := A_classMany) (A_classLow := A_classLow) (A_classHigh := A_classHigh) (k := ((12500 * s) + k)) (p := p) h80 h118 h121 h122 h123 h124 (by omega) (by omega) jst jcl jch (jsg k (by omega) (by omega)).2.2.2.2.2 (by omega) (by omega) (by omega)) (fun oc G2 h => by rcases h with ⟨_, h, _⟩ <;> exact ⟨_, h⟩) (by omega) m_MO_taken ml_MO_525 im_MO_taken se_MO_taken c_MO h80.2.2 (Nat.le_of_ble_eq_true rfl) d_MO_note_74 rfl ?_
      intro v G2 hq
      rcases hq with ⟨v3, hv, hfk, hlk, hsk, hq4, hq5, hq6⟩
      cases hv
      have h80 := hfk.get h80 (by decide)
      have hno := hfk.get hno (by simp)
      have h137 := hfk.get h137 (by decide)
      have h118 := hfk.get h118 (by decide)
      have h119 := hfk.get h119 (by decide)
      have h121 := hfk.get h121 (by decide)
      have h122 := hfk.get h122 (by decide)
      have h123 := hfk.get h123 (by decide)
      have h124 := hfk.get h124 (by decide)
      have hfr := hfr.tr hfk (by decide)
      have hlen := hlk.trans hlen
      have hsl := hsk.trans hsl
      change ab_W _ _ _ G2 77 [some (vR 80), some (vR no), some (vz s), some (vz fr), some (vz to), some (vz al), some (vz n), some (vz p), some (vz k), none, none, none, none] [vz v3] _
      refine ab_istore d_MO_note_77 (Nat.le_of_ble_eq_true rfl) (Nat.le_of_ble_eq_true rfl) rfl ?_
      change ab_W _ _ _ G2 79 [some (vR 80), some (vR no), some (vz s), some (vz fr), some (vz to), some (vz al), some (vz n), some (vz p), some (vz k), some (vz v3), none, none, none] [] _
      refine ab_aload_n d_MO_note_79 rfl ?_
      refine ab_getf (fs := mof m_thrown m_taped m_length m_out m_wide m_gathered m_sets m_ranges m_nodes m_at m_flags m_fault m_place m_numbered m_depth m_value m_isNot m_least0 m_most0 m_slot m_work m_got m_rowMany m_charAt m_charWide m_trail m_isMatch m_matchGroups m_allFrom m_allBefore m_founds m_pieces m_writtenMany m_templateWide m_tooMuch) f_MO_187 d_MO_note_80 h80.2.2 rfl ?_
      refine ab_iload d_MO_note_83 rfl ?_
      refine ab_aload_n d_MO_note_85 rfl ?_
      refine ab_getf (fs := mof m_thrown m_taped m_length m_out m_wide m_gathered m_sets m_ranges m_nodes m_at m_flags m_fault m_place m_numbered m_depth m_value m_isNot m_least0 m_most0 m_slot m_work m_got m_rowMany m_charAt m_charWide m_trail m_isMatch m_matchGroups m_allFrom m_allBefore m_founds m_pieces m_writtenMany m_templateWide m_tooMuch) f_MO_128 d_MO_note_86 h80.2.2 rfl ?_
      refine zz_sipush d_MO_note_89 (by decide) ?_
      refine ab_iload_n d_MO_note_92 rfl ?_
      refine zz_imul d_MO_note_93 ?_
      refine ab_iload d_MO_note_94 rfl ?_
      refine zz_iadd d_MO_note_96 ?_
      refine zz_iald d_MO_note_97 h118 (by omega) ?_
      have hq7 := jst ((12500 * s) + k) (by omega) (by omega)
      refine zz_if_ne (tgt := 120) d_MO_note_98 (by decide) (by omega) (fun c8 => ?_) (fun c8 => ?_)
      · refine ab_iload d_MO_note_120 rfl ?_
        refine zz_if_le (tgt := 163) d_MO_note_122 (by decide) (by omega) (fun c9 => ?_) (fun c9 => ?_)
        · refine zz_iconst d_MO_note_163 ?_
          refine zz_zast d_MO_note_164 h137 (by omega) (by decide) (h137.2.1 (by decide)) ?_
          obtain ⟨G10, eG10⟩ : ∃ z : ab_G, z = List.set G2 137 (zb 12500 (zu Z k 0)) := ⟨_, rfl⟩
          have h80 := h80.keep h137 eG10 (by decide)
          have hno := hno.keep h137 eG10 (by omega)
          have h118 := h118.keep h137 eG10 (by decide)
          have h119 := h119.keep h137 eG10 (by decide)
          have h121 := h121.keep h137 eG10 (by decide)
          have h122 := h122.keep h137 eG10 (by decide)
          have h123 := h123.keep h137 eG10 (by decide)
          have h124 := h124.keep h137 eG10 (by decide)
          have hlen := (z_len eG10).trans hlen
          have hsl := (z_sl h137 eG10 rfl).trans hsl
          have hfr := hfr.wr h137 eG10 (by decide)
          have h137 := h137.kept eG10
          change ab_W _ _ _ (List.set G2 137 (zb 12500 (zu Z k 0))) 165 [some (vR 80), some (vR no), some (vz s), some (vz fr), some (vz to), some (vz al), some (vz n), some (vz p), some (vz k), some (vz v3), none, none, none] [] _
          rw [← eG10]
          refine zz_iinc d_MO_note_165 rfl (Nat.le_of_ble_eq_true rfl) (Nat.le_of_ble_eq_true rfl) rfl ?_
          change ab_W _ _ _ G10 168 [some (vR 80), some (vR no), some (vz s), some (vz fr), some (vz to), some (vz al), some (vz n), some (vz p), some (vz (k + 1)), some (vz v3), none, none, none] [] _
          refine ab_goto (tgt := 56) d_MO_note_168 (by decide) ?_
          refine ab_less (L' := [some (vR 80), some (vR no), some (vz s), some (vz fr), some (vz to), some (vz al), some (vz n), some (vz p), some (vz (k + 1)), none, none, none, none]) (fun i v h => by rcases i with _ | _ | _ | _ | _ | _ | _ | _ | _ | _ | _ | _ | _ | i <;> first | exact h | (simp at h)) ?_
          exact ih (k := (k + 1)) (Z := (zu Z k 0)) h80 hno h137 h118 h119 h121 h122 h123 h124 (by omega) (rgs_zu jz (by omega)) (nsz_s jsd (fun h => absurd h (by decide))) (nsc_s jsq (fun q => absurd q (by first | exact nsd_n0 (by omega) (by omega) | exact nsd_n1 (by omega) hmc hq4 (fun q => by first | omega)))) hfr hlen hsl (by omega) hk0
        · refine ab_iload d_MO_note_125 rfl ?_
          refine ab_iload d_MO_note_127 rfl ?_
          refine zz_iadd d_MO_note_129 ?_
          refine ab_iload_n d_MO_note_130 rfl ?_
          refine zz_icmp_gt (tgt := 163) d_MO_note_131 (by decide) (by omega) (by omega) (fun c11 => ?_) (fun c11 => ?_)
          · refine zz_iconst d_MO_note_163 ?_
            refine zz_zast d_MO_note_164 h137 (by omega) (by decide) (h137.2.1 (by decide)) ?_
            obtain ⟨G12, eG12⟩ : ∃ z : ab_G, z = List.set G2 137 (zb 12500 (zu Z k 0)) := ⟨_, rfl⟩
            have h80 := h80.keep h137 eG12 (by decide)
            have hno := hno.keep h137 eG12 (by omega)
            have h118 := h118.keep h137 eG12 (by decide)
            have h119 := h119.keep h137 eG12 (by decide)
            have h121 := h121.keep h137 eG12 (by decide)
            have h122 := h122.keep h137 eG12 (by decide)
            have h123 := h123.keep h137 eG12 (by decide)
            have h124 := h124.keep h137 eG12 (by decide)
            have hlen := (z_len eG12).trans hlen
            have hsl := (z_sl h137 eG12 rfl).trans hsl
            have hfr := hfr.wr h137 eG12 (by decide)
            have h137 := h137.kept eG12
            change ab_W _ _ _ (List.set G2 137 (zb 12500 (zu Z k 0))) 165 [some (vR 80), some (vR no), some (vz s), some (vz fr), some (vz to), some (vz al), some (vz n), some (vz p), some (vz k), some (vz v3), none, none, none] [] _
            rw [← eG12]
            refine zz_iinc d_MO_note_165 rfl (Nat.le_of_ble_eq_true rfl) (Nat.le_of_ble_eq_true rfl) rfl ?_
            change ab_W _ _ _ G12 168 [some (vR 80), some (vR no), some (vz s), some (vz fr), some (vz to), some (vz al), some (vz n), some (vz p), some (vz (k + 1)), some (vz v3), none, none, none] [] _
            refine ab_goto (tgt := 56) d_MO_note_168 (by decide) ?_
            refine ab_less (L' := [some (vR 80), some (vR no), some (vz s), some (vz fr), some (vz to), some (vz al), some (vz n), some (vz p), some (vz (k + 1)), none, none, none, none]) (fun i v h => by rcases i with _ | _ | _ | _ | _ | _ | _ | _ | _ | _ | _ | _ | _ | i <;> first | exact h | (simp at h)) ?_
            exact ih (k := (k + 1)) (Z := (zu Z k 0)) h80 hno h137 h118 h119 h121 h122 h123 h124 (by omega) (rgs_zu jz (by omega)) (nsz_s jsd (fun h => absurd h (by decide))) (nsc_s jsq (fun q => absurd q (by first | exact nsd_n0 (by omega) (by omega) | exact nsd_n1 (by omega) hmc hq4 (fun q => by first | omega)))) hfr hlen hsl (by omega) hk0
          · have hsg_ := jsg k (by omega) (by omega)
            have hnx_ := hsg_.2.1 (by omega) (by omega)
            refine ab_aload_n d_MO_note_134 rfl ?_
            refine ab_iload d_MO_note_135 rfl ?_
            refine ab_iload d_MO_note_137 rfl ?_
            refine zz_iadd d_MO_note_139 ?_
            refine ab_aload_n d_MO_note_140 rfl ?_
            refine ab_getf (fs := mof m_thrown m_taped m_length m_out m_wide m_gathered m_sets m_ranges m_nodes m_at m_flags m_fault m_place m_numbered m_depth m_value m_isNot m_least0 m_most0 m_slot m_work m_got m_rowMany m_charAt m_charWide m_trail m_isMatch m_matchGroups m_allFrom m_allBefore m_founds m_pieces m_writtenMany m_templateWide m_tooMuch) f_MO_131 d_MO_note_141 h80.2.2 rfl ?_
            refine zz_sipush d_MO_note_144 (by decide) ?_
            refine ab_iload_n d_MO_note_147 rfl ?_
            refine zz_imul d_MO_note_148 ?_
            refine ab_iload d_MO_note_149 rfl ?_
            refine zz_iadd d_MO_note_151 ?_
            refine zz_iald d_MO_note_152 h119 (by omega) ?_
            refine ab_callS (d' := d - 1) (as := [vR no, vz (p + v3), vz (A_next ((12500 * s) + k))]) (st := [vz k, vR 137]) (z_MO_bit (o := o) (a := no) (l := lno) (A := NO) (p := (p + v3)) (k := (A_next ((12500 * s) + k))) hno (by omega)) (fun oc G2 h => by rcases h with ⟨h, _⟩ | ⟨h, _⟩ <;> exact ⟨_, h⟩) (by omega) m_MO_bit ml_MO_528 st_MO_bit (Nat.le_of_ble_eq_true rfl) d_MO_note_153 rfl ?_
            intro v G13 hq
            rcases hq with ⟨hv, hGe, hq14⟩ | ⟨hv, hGe, hq15⟩
            · cases hv
              rw [hGe]
              change ab_W _ _ _ G2 156 [some (vR 80), some (vR no), some (vz s), some (vz fr), some (vz to), some (vz al), some (vz n), some (vz p), some (vz k), some (vz v3), none, none, none] [vz 1, vz k, vR 137] _
              refine zz_if_eq (tgt := 163) d_MO_note_156 (by decide) (by decide) (fun c16 => absurd c16 (by decide)) (fun c16 => ?_)
              refine zz_iconst d_MO_note_159 ?_
              refine ab_goto (tgt := 164) d_MO_note_160 (by decide) ?_
              refine zz_zast d_MO_note_164 h137 (by omega) (by decide) (h137.2.1 (by decide)) ?_
              obtain ⟨G17, eG17⟩ : ∃ z : ab_G, z = List.set G2 137 (zb 12500 (zu Z k 1)) := ⟨_, rfl⟩
              have h80 := h80.keep h137 eG17 (by decide)
              have hno := hno.keep h137 eG17 (by omega)
              have h118 := h118.keep h137 eG17 (by decide)
              have h119 := h119.keep h137 eG17 (by decide)
              have h121 := h121.keep h137 eG17 (by decide)
              have h122 := h122.keep h137 eG17 (by decide)
              have h123 := h123.keep h137 eG17 (by decide)
              have h124 := h124.keep h137 eG17 (by decide)
              have hlen := (z_len eG17).trans hlen
              have hsl := (z_sl h137 eG17 rfl).trans hsl
              have hfr := hfr.wr h137 eG17 (by decide)
              have h137 := h137.kept eG17
              change ab_W _ _ _ (List.set G2 137 (zb 12500 (zu Z k 1))) 165 [some (vR 80), some (vR no), some (vz s), some (vz fr), some (vz to), some (vz al), some (vz n), some (vz p), some (vz k), some (vz v3), none, none, none] [] _
              rw [← eG17]
              refine zz_iinc d_MO_note_165 rfl (Nat.le_of_ble_eq_true rfl) (Nat.le_of_ble_eq_true rfl) rfl ?_
              change ab_W _ _ _ G17 168 [some (vR 80), some (vR no), some (vz s), some (vz fr), some (vz to), some (vz al), some (vz n), some (vz p), some (vz (k + 1)), some (vz v3), none, none, none] [] _
              refine ab_goto (tgt := 56) d_MO_note_168 (by decide) ?_
              refine ab_less (L' := [some (vR 80), some (vR no), some (vz s), some (vz fr), some (vz to), some (vz al), some (vz n), some (vz p), some (vz (k + 1)), none, none, none, none]) (fun i v h => by rcases i with _ | _ | _ | _ | _ | _ | _ | _ | _ | _ | _ | _ | _ | i <;> first | exact h | (simp at h)) ?_
              exact ih (k := (k + 1)) (Z := (zu Z k 1)) h80 hno h137 h118 h119 h121 h122 h123 h124 (by omega) (rgs_zu jz (by omega)) (nsz_s jsd (fun _ => Or.inr ⟨by omega, m_charAt, m_charWide, _, hmc, hq4, by omega, by omega, hq14⟩)) (nsc_s jsq (fun _ => rfl)) hfr hlen hsl (by omega) hk0
            · cases hv
              rw [hGe]
              change ab_W _ _ _ G2 156 [some (vR 80), some (vR no), some (vz s), some (vz fr), some (vz to), some (vz al), some (vz n), some (vz p), some (vz k), some (vz v3), none, none, none] [vz 0, vz k, vR 137] _
              refine zz_if_eq (tgt := 163) d_MO_note_156 (by decide) (by decide) (fun c18 => ?_) (fun c18 => absurd c18 (by decide))
              refine zz_iconst d_MO_note_163 ?_
              refine zz_zast d_MO_note_164 h137 (by omega) (by decide) (h137.2.1 (by decide)) ?_
              obtain ⟨G19, eG19⟩ : ∃ z : ab_G, z = List.set G2 137 (zb 12500 (zu Z k 0)) := ⟨_, rfl⟩
              have h80 := h80.keep h137 eG19 (by decide)
              have hno := hno.keep h137 eG19 (by omega)
              have h118 := h118.keep h137 eG19 (by decide)
              have h119 := h119.keep h137 eG19 (by decide)
              have h121 := h121.keep h137 eG19 (by decide)
              have h122 := h122.keep h137 eG19 (by decide)
              have h123 := h123.keep h137 eG19 (by decide)
              have h124 := h124.keep h137 eG19 (by decide)
              have hlen := (z_len eG19).trans hlen
              have hsl := (z_sl h137 eG19 rfl).trans hsl
              have hfr := hfr.wr h137 eG19 (by decide)
              have h137 := h137.kept eG19
              change ab_W _ _ _ (List.set G2 137 (zb 12500 (zu Z k 0))) 165 [some (vR 80), some (vR no), some (vz s), some (vz fr), some (vz to), some (vz al), some (vz n), some (vz p), some (vz k), some (vz v3), none, none, none] [] _
              rw [← eG19]
              refine zz_iinc d_MO_note_165 rfl (Nat.le_of_ble_eq_true rfl) (Nat.le_of_ble_eq_true rfl) rfl ?_
              change ab_W _ _ _ G19 168 [some (vR 80), some (vR no), some (vz s), some (vz fr), some (vz to), some (vz al), some (vz n), some (vz p), some (vz (k + 1)), some (vz v3), none, none, none] [] _
              refine ab_goto (tgt := 56) d_MO_note_168 (by decide) ?_
              refine ab_less (L' := [some (vR 80), some (vR no), some (vz s), some (vz fr), some (vz to), some (vz al), some (vz n), some (vz p), some (vz (k + 1)), none, none, none, none]) (fun i v h => by rcases i with _ | _ | _ | _ | _ | _ | _ | _ | _ | _ | _ | _ | _ | i <;> first | exact h | (simp at h)) ?_
              exact ih (k := (k + 1)) (Z := (zu Z k 0)) h80 hno h137 h118 h119 h121 h122 h123 h124 (by omega) (rgs_zu jz (by omega)) (nsz_s jsd (fun h => absurd h (by decide))) (nsc_s jsq (fun q => absurd q (by first | exact nsd_n0 (by omega) (by omega) | exact nsd_n1 (by omega) hmc hq4 (fun q => by first | omega | exact absurd q.2.2 hq15)))) hfr hlen hsl (by omega) hk0
      · refine ab_iload d_MO_note_101 rfl ?_
        refine ab_iload_n d_MO_note_103 rfl ?_
        refine zz_icmp_eq (tgt := 112) d_MO_note_104 (by decide) (by omega) (by omega) (fun c20 => ?_) (fun c20 => ?_)
        · refine zz_iconst d_MO_note_112 ?_
          refine ab_goto (tgt := 164) d_MO_note_113 (by decide) ?_
          refine zz_zast d_MO_note_164 h137 (by omega) (by decide) (h137.2.1 (by decide)) ?_
          obtain ⟨G21, eG21⟩ : ∃ z : ab_G, z = List.set G2 137 (zb 12500 (zu Z k 1)) := ⟨_, rfl⟩
          have h80 := h80.keep h137 eG21 (by decide)
          have hno := hno.keep h137 eG21 (by omega)
          have h118 := h118.keep h137 eG21 (by decide)
          have h119 := h119.keep h137 eG21 (by decide)
          have h121 := h121.keep h137 eG21 (by decide)
          have h122 := h122.keep h137 eG21 (by decide)
          have h123 := h123.keep h137 eG21 (by decide)
          have h124 := h124.keep h137 eG21 (by decide)
          have hlen := (z_len eG21).trans hlen
          have hsl := (z_sl h137 eG21 rfl).trans hsl
          have hfr := hfr.wr h137 eG21 (by decide)
          have h137 := h137.kept eG21
          change ab_W _ _ _ (List.set G2 137 (zb 12500 (zu Z k 1))) 165 [some (vR 80), some (vR no), some (vz s), some (vz fr), some (vz to), some (vz al), some (vz n), some (vz p), some (vz k), some (vz v3), none, none, none] [] _
          rw [← eG21]
          refine zz_iinc d_MO_note_165 rfl (Nat.le_of_ble_eq_true rfl) (Nat.le_of_ble_eq_true rfl) rfl ?_
          change ab_W _ _ _ G21 168 [some (vR 80), some (vR no), some (vz s), some (vz fr), some (vz to), some (vz al), some (vz n), some (vz p), some (vz (k + 1)), some (vz v3), none, none, none] [] _
          refine ab_goto (tgt := 56) d_MO_note_168 (by decide) ?_
          refine ab_less (L' := [some (vR 80), some (vR no), some (vz s), some (vz fr), some (vz to), some (vz al), some (vz n), some (vz p), some (vz (k + 1)), none, none, none, none]) (fun i v h => by rcases i with _ | _ | _ | _ | _ | _ | _ | _ | _ | _ | _ | _ | _ | i <;> first | exact h | (simp at h)) ?_
          exact ih (k := (k + 1)) (Z := (zu Z k 1)) h80 hno h137 h118 h119 h121 h122 h123 h124 (by omega) (rgs_zu jz (by omega)) (nsz_s jsd (fun _ => Or.inl ⟨by omega, by omega⟩)) (nsc_s jsq (fun _ => rfl)) hfr hlen hsl (by omega) hk0
        · refine ab_iload d_MO_note_107 rfl ?_
          refine zz_if_ne (tgt := 116) d_MO_note_109 (by decide) (by omega) (fun c22 => ?_) (fun c22 => ?_)
          · refine zz_iconst d_MO_note_116 ?_
            refine ab_goto (tgt := 164) d_MO_note_117 (by decide) ?_
            refine zz_zast d_MO_note_164 h137 (by omega) (by decide) (h137.2.1 (by decide)) ?_
            obtain ⟨G23, eG23⟩ : ∃ z : ab_G, z = List.set G2 137 (zb 12500 (zu Z k 0)) := ⟨_, rfl⟩
            have h80 := h80.keep h137 eG23 (by decide)
            have hno := hno.keep h137 eG23 (by omega)
            have h118 := h118.keep h137 eG23 (by decide)
            have h119 := h119.keep h137 eG23 (by decide)
            have h121 := h121.keep h137 eG23 (by decide)
            have h122 := h122.keep h137 eG23 (by decide)
            have h123 := h123.keep h137 eG23 (by decide)
            have h124 := h124.keep h137 eG23 (by decide)
            have hlen := (z_len eG23).trans hlen
            have hsl := (z_sl h137 eG23 rfl).trans hsl
            have hfr := hfr.wr h137 eG23 (by decide)
            have h137 := h137.kept eG23
            change ab_W _ _ _ (List.set G2 137 (zb 12500 (zu Z k 0))) 165 [some (vR 80), some (vR no), some (vz s), some (vz fr), some (vz to), some (vz al), some (vz n), some (vz p), some (vz k), some (vz v3), none, none, none] [] _
            rw [← eG23]
            refine zz_iinc d_MO_note_165 rfl (Nat.le_of_ble_eq_true rfl) (Nat.le_of_ble_eq_true rfl) rfl ?_
            change ab_W _ _ _ G23 168 [some (vR 80), some (vR no), some (vz s), some (vz fr), some (vz to), some (vz al), some (vz n), some (vz p), some (vz (k + 1)), some (vz v3), none, none, none] [] _
            refine ab_goto (tgt := 56) d_MO_note_168 (by decide) ?_
            refine ab_less (L' := [some (vR 80), some (vR no), some (vz s), some (vz fr), some (vz to), some (vz al), some (vz n), some (vz p), some (vz (k + 1)), none, none, none, none]) (fun i v h => by rcases i with _ | _ | _ | _ | _ | _ | _ | _ | _ | _ | _ | _ | _ | i <;> first | exact h | (simp at h)) ?_
            exact ih (k := (k + 1)) (Z := (zu Z k 0)) h80 hno h137 h118 h119 h121 h122 h123 h124 (by omega) (rgs_zu jz (by omega)) (nsz_s jsd (fun h => absurd h (by decide))) (nsc_s jsq (fun q => absurd q (by first | exact nsd_n0 (by omega) (by omega) | exact nsd_n1 (by omega) hmc hq4 (fun q => by first | omega)))) hfr hlen hsl (by omega) hk0
          · refine zz_iconst d_MO_note_112 ?_
            refine ab_goto (tgt := 164) d_MO_note_113 (by decide) ?_
            refine zz_zast d_MO_note_164 h137 (by omega) (by decide) (h137.2.1 (by decide)) ?_
            obtain ⟨G24, eG24⟩ : ∃ z : ab_G, z = List.set G2 137 (zb 12500 (zu Z k 1)) := ⟨_, rfl⟩
            have h80 := h80.keep h137 eG24 (by decide)
            have hno := hno.keep h137 eG24 (by omega)
            have h118 := h118.keep h137 eG24 (by decide)
            have h119 := h119.keep h137 eG24 (by decide)
            have h121 := h121.keep h137 eG24 (by decide)
            have h122 := h122.keep h137 eG24 (by decide)
            have h123 := h123.keep h137 eG24 (by decide)
            have h124 := h124.keep h137 eG24 (by decide)
            have hlen := (z_len eG24).trans hlen
            have hsl := (z_sl h137 eG24 rfl).trans hsl
            have hfr := hfr.wr h137 eG24 (by decide)
            have h137 := h137.kept eG24
            change ab_W _ _ _ (List.set G2 137 (zb 12500 (zu Z k 1))) 165 [some (vR 80), some (vR no), some (vz s), some (vz fr), some (vz to), some (vz al), some (vz n), some (vz p), some (vz k), some (vz v3), none, none, none] [] _
            rw [← eG24]
            refine zz_iinc d_MO_note_165 rfl (Nat.le_of_ble_eq_true rfl) (Nat.le_of_ble_eq_true rfl) rfl ?_
            change ab_W _ _ _ G24 168 [some (vR 80), some (vR no), some (vz s), some (vz fr), some (vz to), some (vz al), some (vz n), some (vz p), some (vz (k + 1)), some (vz v3), none, none, none] [] _
            refine ab_goto (tgt := 56) d_MO_note_168 (by decide) ?_
            refine ab_less (L' := [some (vR 80), some (vR no), some (vz s), some (vz fr), some (vz to), some (vz al), some (vz n), some (vz p), some (vz (k + 1)), none, none, none, none]) (fun i v h => by rcases i with _ | _ | _ | _ | _ | _ | _ | _ | _ | _ | _ | _ | _ | i <;> first | exact h | (simp at h)) ?_
            exact ih (k := (k + 1)) (Z := (zu Z k 1)) h80 hno h137 h118 h119 h121 h122 h123 h124 (by omega) (rgs_zu jz (by omega)) (nsz_s jsd (fun _ => Or.inl ⟨by omega, by omega⟩)) (nsc_s jsq (fun _ => rfl)) hfr hlen hsl (by omega) hk0
set_option maxRecDepth 100000 in
set_option maxHeartbeats 4000000 in
theorem y_MO_note_185 {X : ab_X} {d : Nat} {Q : Outcome → ab_G → Prop} {o : Nat → Nat} {G0 : ab_G} {m_thrown : Int} {m_taped : Int} {m_length : Int} {m_out : Int} {m_wide : Int} {m_gathered : Int} {m_sets : Int} {m_ranges : Int} {m_nodes : Int} {m_at : Int} {m_flags : Int} {m_fault : Int} {m_place : Int} {m_numbered : Int} {m_depth : Int} {m_value : Int} {m_isNot : Int} {m_least0 : Int} {m_most0 : Int} {m_slot : Int} {m_work : Int} {m_got : Int} {m_rowMany : Int} {m_charAt : Int} {m_charWide : Int} {m_trail : Int} {m_isMatch : Int} {m_matchGroups : Int} {m_allFrom : Int} {m_allBefore : Int} {m_founds : Int} {m_pieces : Int} {m_writtenMany : Int} {m_templateWide : Int} {m_tooMuch : Int} {A_subject : Int → Int} {A_step : Int → Int} {A_next : Int → Int} {A_more : Int → Int} {A_classAt : Int → Int} {A_classMany : Int → Int} {A_classLow : Int → Int} {A_classHigh : Int → Int} {no : Nat} {NO : Int → Int} {s : Int} {fr : Int} {to : Int} {al : Int} {n : Int} {p : Int} {z0 : Int} (n18 : ab_n0 = 18) (cle : 0 ≤ m_length ∧ m_length ≤ 2000) (cp : 0 ≤ p ∧ p ≤ fr ∧ fr ≤ m_length) (cs : 0 ≤ s ∧ s ≤ 5 ∧ 0 ≤ n ∧ n ≤ 12500 ∧ 0 ≤ al ∧ al ≤ 1) (jsg : sgood A_step A_next A_more A_classAt A_classMany (12500 * s) n) (jst : rgs A_step 75000 0 6) (jsb : rgs A_subject 2000 0 255) (hd : 3 ≤ d) : ∀ (mz : Nat) {G : ab_G} {k : Int} {gr : Int} {Z : Int → Int}, (cc o G 80 280 (ab_ob 12 (mof m_thrown m_taped m_length m_out m_wide m_gathered m_sets m_ranges m_nodes m_at m_flags m_fault m_place m_numbered m_depth m_value m_isNot m_least0 m_most0 m_slot m_work m_got m_rowMany m_charAt m_charWide m_trail m_isMatch m_matchGroups m_allFrom m_allBefore m_founds m_pieces m_writtenMany m_templateWide m_tooMuch))) → (cc o G 137 337 (zb 12500 Z)) → (cc o G 118 318 (za 75000 A_step)) → (cc o G 119 319 (za 75000 A_next)) → (cc o G 120 320 (za 75000 A_more)) → (cc o G 85 285 (za 2000 A_subject)) → (0 ≤ k ∧ k ≤ n ∧ 0 ≤ gr ∧ gr ≤ 1 ∧ nz Z n + gr ≤ z0) → (rgs Z 12500 0 1) → (ngr A_step A_next A_more A_classAt A_classMany A_classLow A_classHigh A_subject NO m_length (12500 * s) n fr al p Z) → (gr = 0 → ncz A_step A_next A_more A_subject m_length (12500 * s) p Z k) → (nsc A_step A_next A_classAt A_classMany A_classLow A_classHigh A_subject NO m_length (12500 * s) fr al p Z n) → (fx o o [337] G0 G) → (G.length = G0.length) → (ab_slots G = ab_slots G0) → (Int.toNat (n - k) < mz) → (∀ (G2 : ab_G) (g2 : Int) (Z2 : Int → Int), (cc o G2 137 337 (zb 12500 Z2)) → (0 ≤ g2 ∧ g2 ≤ 1 ∧ nz Z2 n + g2 ≤ z0) → (rgs Z2 12500 0 1) → (ngr A_step A_next A_more A_classAt A_classMany A_classLow A_classHigh A_subject NO m_length (12500 * s) n fr al p Z2) → (g2 = 0 → ncz A_step A_next A_more A_subject m_length (12500 * s) p Z2 n) → (nsc A_step A_next A_classAt A_classMany A_classLow A_classHigh A_subject NO m_length (12500 * s) fr al p Z2 n) → (fx o o [337] G0 G2) → (G2.length = G0.length) → (ab_slots G2 = ab_slots G0) → ab_W X (ab_pl y_MO_note b_MO_note 13 none) d G2 355 [some (vR 80), some (vR no), some (vz s), some (vz fr), some (vz to), some (vz al), some (vz n), some (vz p), some (vz g2), none, none, none, none] [] Q) → ab_W X (ab_pl y_MO_note b_MO_note 13 none) d G 185 [some (vR 80), some (vR no), some (vz s), some (vz fr), some (vz to), some (vz al), some (vz n), some (vz p), some (vz gr), some (vz k), none, none, none] [] Q := by
  intro mz
  induction mz with
  | zero => intro G k gr Z h80 h137 h118 h119 h120 h85 ci jz jg jq jsq hfr hlen hsl hm hk0; exact absurd hm (Nat.not_lt_zero _)
  | succ mz ih =>
    intro G k gr Z h80 h137 h118 h119 h120 h85 ci jz jg jq jsq hfr hlen hsl hm hk0
    refine ab_iload d_MO_note_185 rfl ?_
    refine ab_iload d_MO_note_187 rfl ?_
    refine zz_icmp_ge (tgt := 355) d_MO_note_189 (by decide) (by omega) (by omega) (fun c1 => ?_) (fun c1 => ?_)
    · refine ab_less (L' := [some (vR 80), some (vR no), some (vz s), some (vz fr), some (vz to), some (vz al), some (vz n), some (vz p), some (vz gr), none, none, none, none]) (fun i v h => by rcases i with _ | _ | _ | _ | _ | _ | _ | _ | _ | _ | _ | _ | _ | i <;> first | exact h | (simp at h)) ?_
      exact hk0 _ _ _ h137 (by omega) (by exact jz) (by exact jg) (by exact (show k = n by omega) ▸ jq) (by exact jsq) hfr hlen hsl
    · have hsg_ := jsg k (by omega) (by omega)
      refine zz_sipush d_MO_note_192 (by decide) ?_
      refine ab_iload_n d_MO_note_195 rfl ?_
      refine zz_imul d_MO_note_196 ?_
      refine ab_iload d_MO_note_197 rfl ?_
      refine zz_iadd d_MO_note_199 ?_
      refine ab_istore d_MO_note_200 (Nat.le_of_ble_eq_true rfl) (Nat.le_of_ble_eq_true rfl) rfl ?_
      change ab_W _ _ _ G 202 [some (vR 80), some (vR no), some (vz s), some (vz fr), some (vz to), some (vz al), some (vz n), some (vz p), some (vz gr), some (vz k), some (vz ((12500 * s) + k)), none, none] [] _
      refine ab_aload_n d_MO_note_202 rfl ?_
      refine ab_getf (fs := mof m_thrown m_taped m_length m_out m_wide m_gathered m_sets m_ranges m_nodes m_at m_flags m_fault m_place m_numbered m_depth m_value m_isNot m_least0 m_most0 m_slot m_work m_got m_rowMany m_charAt m_charWide m_trail m_isMatch m_matchGroups m_allFrom m_allBefore m_founds m_pieces m_writtenMany m_templateWide m_tooMuch) f_MO_128 d_MO_note_203 h80.2.2 rfl ?_
      refine ab_iload d_MO_note_206 rfl ?_
      refine zz_iald d_MO_note_208 h118 (by omega) ?_
      have hq2 := jst ((12500 * s) + k) (by omega) (by omega)
      refine ab_istore d_MO_note_209 (Nat.le_of_ble_eq_true rfl) (Nat.le_of_ble_eq_true rfl) rfl ?_
      change ab_W _ _ _ G 211 [some (vR 80), some (vR no), some (vz s), some (vz fr), some (vz to), some (vz al), some (vz n), some (vz p), some (vz gr), some (vz k), some (vz ((12500 * s) + k)), some (vz (A_step ((12500 * s) + k))), none] [] _
      refine ab_iload d_MO_note_211 rfl ?_
      refine zz_iconst d_MO_note_213 ?_
      refine zz_icmp_ne (tgt := 255) d_MO_note_214 (by decide) (by omega) (by decide) (fun c3 => ?_) (fun c3 => ?_)
      · refine ab_iload d_MO_note_255 rfl ?_
        refine zz_iconst d_MO_note_257 ?_
        refine zz_icmp_ne (tgt := 276) d_MO_note_258 (by decide) (by omega) (by decide) (fun c4 => ?_) (fun c4 => ?_)
        · refine ab_iload d_MO_note_276 rfl ?_
          refine zz_iconst d_MO_note_278 ?_
          refine zz_icmp_ne (tgt := 317) d_MO_note_279 (by decide) (by omega) (by decide) (fun c5 => ?_) (fun c5 => ?_)
          · refine zz_iconst d_MO_note_317 ?_
            refine ab_istore d_MO_note_318 (Nat.le_of_ble_eq_true rfl) (Nat.le_of_ble_eq_true rfl) rfl ?_
            change ab_W _ _ _ G 320 [some (vR 80), some (vR no), some (vz s), some (vz fr), some (vz to), some (vz al), some (vz n), some (vz p), some (vz gr), some (vz k), some (vz ((12500 * s) + k)), some (vz (A_step ((12500 * s) + k))), some (vz 0)] [] _
            have hz3_ := jz k (by omega) (by omega)
            refine ab_aload_n d_MO_note_320 rfl ?_
            refine ab_getf (fs := mof m_thrown m_taped m_length m_out m_wide m_gathered m_sets m_ranges m_nodes m_at m_flags m_fault m_place m_numbered m_depth m_value m_isNot m_least0 m_most0 m_slot m_work m_got m_rowMany m_charAt m_charWide m_trail m_isMatch m_matchGroups m_allFrom m_allBefore m_founds m_pieces m_writtenMany m_templateWide m_tooMuch) f_MO_187 d_MO_note_321 h80.2.2 rfl ?_
            refine ab_iload d_MO_note_324 rfl ?_
            refine zz_zald d_MO_note_326 h137 (by omega) ?_
            have hq6 := jz k (by omega) (by omega)
            refine zz_if_ne (tgt := 349) d_MO_note_327 (by decide) (by omega) (fun c7 => ?_) (fun c7 => ?_)
            · refine zz_iinc d_MO_note_349 rfl (Nat.le_of_ble_eq_true rfl) (Nat.le_of_ble_eq_true rfl) rfl ?_
              change ab_W _ _ _ G 352 [some (vR 80), some (vR no), some (vz s), some (vz fr), some (vz to), some (vz al), some (vz n), some (vz p), some (vz gr), some (vz (k + 1)), some (vz ((12500 * s) + k)), some (vz (A_step ((12500 * s) + k))), some (vz 0)] [] _
              refine ab_goto (tgt := 185) d_MO_note_352 (by decide) ?_
              refine ab_less (L' := [some (vR 80), some (vR no), some (vz s), some (vz fr), some (vz to), some (vz al), some (vz n), some (vz p), some (vz gr), some (vz (k + 1)), none, none, none]) (fun i v h => by rcases i with _ | _ | _ | _ | _ | _ | _ | _ | _ | _ | _ | _ | _ | i <;> first | exact h | (simp at h)) ?_
              exact ih (k := (k + 1)) (gr := gr) (Z := Z) h80 h137 h118 h119 h120 h85 (by omega) jz jg (fun h => ncz_s (jq h) (fun q => by unfold nep at q; dsimp only at q; rcases q with ⟨t, q⟩ | ⟨t, q⟩ | ⟨t, u, q⟩ <;> first | omega)) jsq hfr hlen hsl (by omega) hk0
            · refine ab_iload d_MO_note_330 rfl ?_
              refine zz_if_ne (tgt := 338) d_MO_note_332 (by decide) (by decide) (fun c8 => absurd c8 (by decide)) (fun c8 => ?_)
              refine ab_goto (tgt := 349) d_MO_note_335 (by decide) ?_
              refine zz_iinc d_MO_note_349 rfl (Nat.le_of_ble_eq_true rfl) (Nat.le_of_ble_eq_true rfl) rfl ?_
              change ab_W _ _ _ G 352 [some (vR 80), some (vR no), some (vz s), some (vz fr), some (vz to), some (vz al), some (vz n), some (vz p), some (vz gr), some (vz (k + 1)), some (vz ((12500 * s) + k)), some (vz (A_step ((12500 * s) + k))), some (vz 0)] [] _
              refine ab_goto (tgt := 185) d_MO_note_352 (by decide) ?_
              refine ab_less (L' := [some (vR 80), some (vR no), some (vz s), some (vz fr), some (vz to), some (vz al), some (vz n), some (vz p), some (vz gr), some (vz (k + 1)), none, none, none]) (fun i v h => by rcases i with _ | _ | _ | _ | _ | _ | _ | _ | _ | _ | _ | _ | _ | i <;> first | exact h | (simp at h)) ?_
              exact ih (k := (k + 1)) (gr := gr) (Z := Z) h80 h137 h118 h119 h120 h85 (by omega) jz jg (fun h => ncz_s (jq h) (fun q => by unfold nep at q; dsimp only at q; rcases q with ⟨t, q⟩ | ⟨t, q⟩ | ⟨t, u, q⟩ <;> first | omega)) jsq hfr hlen hsl (by omega) hk0
          · have hnx_ := hsg_.2.1 (by omega) (by omega)
            have hz1_ := jz (A_next ((12500 * s) + k)) (by omega) (by omega)
            refine ab_aload_n d_MO_note_282 rfl ?_
            refine ab_getf (fs := mof m_thrown m_taped m_length m_out m_wide m_gathered m_sets m_ranges m_nodes m_at m_flags m_fault m_place m_numbered m_depth m_value m_isNot m_least0 m_most0 m_slot m_work m_got m_rowMany m_charAt m_charWide m_trail m_isMatch m_matchGroups m_allFrom m_allBefore m_founds m_pieces m_writtenMany m_templateWide m_tooMuch) f_MO_187 d_MO_note_283 h80.2.2 rfl ?_
            refine ab_aload_n d_MO_note_286 rfl ?_
            refine ab_getf (fs := mof m_thrown m_taped m_length m_out m_wide m_gathered m_sets m_ranges m_nodes m_at m_flags m_fault m_place m_numbered m_depth m_value m_isNot m_least0 m_most0 m_slot m_work m_got m_rowMany m_charAt m_charWide m_trail m_isMatch m_matchGroups m_allFrom m_allBefore m_founds m_pieces m_writtenMany m_templateWide m_tooMuch) f_MO_131 d_MO_note_287 h80.2.2 rfl ?_
            refine ab_iload d_MO_note_290 rfl ?_
            refine zz_iald d_MO_note_292 h119 (by omega) ?_
            refine zz_zald d_MO_note_293 h137 (by omega) ?_
            have hq9 := jz (A_next ((12500 * s) + k)) (by omega) (by omega)
            refine zz_if_eq (tgt := 317) d_MO_note_294 (by decide) (by omega) (fun c10 => ?_) (fun c10 => ?_)
            · refine zz_iconst d_MO_note_317 ?_
              refine ab_istore d_MO_note_318 (Nat.le_of_ble_eq_true rfl) (Nat.le_of_ble_eq_true rfl) rfl ?_
              change ab_W _ _ _ G 320 [some (vR 80), some (vR no), some (vz s), some (vz fr), some (vz to), some (vz al), some (vz n), some (vz p), some (vz gr), some (vz k), some (vz ((12500 * s) + k)), some (vz (A_step ((12500 * s) + k))), some (vz 0)] [] _
              have hz3_ := jz k (by omega) (by omega)
              refine ab_aload_n d_MO_note_320 rfl ?_
              refine ab_getf (fs := mof m_thrown m_taped m_length m_out m_wide m_gathered m_sets m_ranges m_nodes m_at m_flags m_fault m_place m_numbered m_depth m_value m_isNot m_least0 m_most0 m_slot m_work m_got m_rowMany m_charAt m_charWide m_trail m_isMatch m_matchGroups m_allFrom m_allBefore m_founds m_pieces m_writtenMany m_templateWide m_tooMuch) f_MO_187 d_MO_note_321 h80.2.2 rfl ?_
              refine ab_iload d_MO_note_324 rfl ?_
              refine zz_zald d_MO_note_326 h137 (by omega) ?_
              have hq11 := jz k (by omega) (by omega)
              refine zz_if_ne (tgt := 349) d_MO_note_327 (by decide) (by omega) (fun c12 => ?_) (fun c12 => ?_)
              · refine zz_iinc d_MO_note_349 rfl (Nat.le_of_ble_eq_true rfl) (Nat.le_of_ble_eq_true rfl) rfl ?_
                change ab_W _ _ _ G 352 [some (vR 80), some (vR no), some (vz s), some (vz fr), some (vz to), some (vz al), some (vz n), some (vz p), some (vz gr), some (vz (k + 1)), some (vz ((12500 * s) + k)), some (vz (A_step ((12500 * s) + k))), some (vz 0)] [] _
                refine ab_goto (tgt := 185) d_MO_note_352 (by decide) ?_
                refine ab_less (L' := [some (vR 80), some (vR no), some (vz s), some (vz fr), some (vz to), some (vz al), some (vz n), some (vz p), some (vz gr), some (vz (k + 1)), none, none, none]) (fun i v h => by rcases i with _ | _ | _ | _ | _ | _ | _ | _ | _ | _ | _ | _ | _ | i <;> first | exact h | (simp at h)) ?_
                exact ih (k := (k + 1)) (gr := gr) (Z := Z) h80 h137 h118 h119 h120 h85 (by omega) jz jg (fun h => ncz_s (jq h) (fun q => by unfold nep at q; dsimp only at q; rcases q with ⟨t, q⟩ | ⟨t, q⟩ | ⟨t, u, q⟩ <;> first | omega)) jsq hfr hlen hsl (by omega) hk0
              · refine ab_iload d_MO_note_330 rfl ?_
                refine zz_if_ne (tgt := 338) d_MO_note_332 (by decide) (by decide) (fun c13 => absurd c13 (by decide)) (fun c13 => ?_)
                refine ab_goto (tgt := 349) d_MO_note_335 (by decide) ?_
                refine zz_iinc d_MO_note_349 rfl (Nat.le_of_ble_eq_true rfl) (Nat.le_of_ble_eq_true rfl) rfl ?_
                change ab_W _ _ _ G 352 [some (vR 80), some (vR no), some (vz s), some (vz fr), some (vz to), some (vz al), some (vz n), some (vz p), some (vz gr), some (vz (k + 1)), some (vz ((12500 * s) + k)), some (vz (A_step ((12500 * s) + k))), some (vz 0)] [] _
                refine ab_goto (tgt := 185) d_MO_note_352 (by decide) ?_
                refine ab_less (L' := [some (vR 80), some (vR no), some (vz s), some (vz fr), some (vz to), some (vz al), some (vz n), some (vz p), some (vz gr), some (vz (k + 1)), none, none, none]) (fun i v h => by rcases i with _ | _ | _ | _ | _ | _ | _ | _ | _ | _ | _ | _ | _ | i <;> first | exact h | (simp at h)) ?_
                exact ih (k := (k + 1)) (gr := gr) (Z := Z) h80 h137 h118 h119 h120 h85 (by omega) jz jg (fun h => ncz_s (jq h) (fun q => by unfold nep at q; dsimp only at q; rcases q with ⟨t, q⟩ | ⟨t, q⟩ | ⟨t, u, q⟩ <;> first | omega)) jsq hfr hlen hsl (by omega) hk0
            · have hak_ := hsg_.2.2.2.2.1 (by omega)
              refine ab_aload_n d_MO_note_297 rfl ?_
              refine ab_aload_n d_MO_note_298 rfl ?_
              refine ab_getf (fs := mof m_thrown m_taped m_length m_out m_wide m_gathered m_sets m_ranges m_nodes m_at m_flags m_fault m_place m_numbered m_depth m_value m_isNot m_least0 m_most0 m_slot m_work m_got m_rowMany m_charAt m_charWide m_trail m_isMatch m_matchGroups m_allFrom m_allBefore m_founds m_pieces m_writtenMany m_templateWide m_tooMuch) f_MO_134 d_MO_note_299 h80.2.2 rfl ?_
              refine ab_iload d_MO_note_302 rfl ?_
              refine zz_iald d_MO_note_304 h120 (by omega) ?_
              refine ab_iload d_MO_note_305 rfl ?_
              refine ab_callV (d' := d - 1) (as := [vz (A_more ((12500 * s) + k)), vz p]) (st := []) (r := _) (z_MO_holds (o := o) (m_thrown := m_thrown) (m_taped := m_taped) (m_length := m_length) (m_out := m_out) (m_wide := m_wide) (m_gathered := m_gathered) (m_sets := m_sets) (m_ranges := m_ranges) (m_nodes := m_nodes) (m_at := m_at) (m_flags := m_flags) (m_fault := m_fault) (m_place := m_place) (m_numbered := m_numbered) (m_depth := m_depth) (m_value := m_value) (m_isNot := m_isNot) (m_least0 := m_least0) (m_most0 := m_most0) (m_slot := m_slot) (m_work := m_work) (m_got := m_got) (m_rowMany := m_rowMany) (m_charAt := m_charAt) (m_charWide := m_charWide) (m_trail := m_trail) (m_isMatch := m_isMatch) (m_matchGroups := m_matchGroups) (m_allFrom := m_allFrom) (m_allBefore := m_allBefore) (m_founds := m_founds) (m_pieces := m_pieces) (m_writtenMany := m_writtenMany) (m_templateWide := m_templateWide) (m_tooMuch := m_tooMuch) (A_subject := A_subject) (p := p) (a := (A_more ((12500 * s) + k))) h80 h85 (by omega) jsb (by omega) (by omega) (by omega)) (fun oc G2 h => by rcases h with ⟨h, _⟩ | ⟨h, _⟩ <;> exact ⟨_, h⟩) (by omega) m_MO_holds ml_MO_532 im_MO_holds se_MO_holds c_MO h80.2.2 (Nat.le_of_ble_eq_true rfl) d_MO_note_307 rfl ?_
              intro v G14 hq
              rcases hq with ⟨hv, hGe, hq15⟩ | ⟨hv, hGe, hq16⟩
              · cases hv
                rw [hGe]
                change ab_W _ _ _ G 310 [some (vR 80), some (vR no), some (vz s), some (vz fr), some (vz to), some (vz al), some (vz n), some (vz p), some (vz gr), some (vz k), some (vz ((12500 * s) + k)), some (vz (A_step ((12500 * s) + k))), none] [vz 1] _
                refine zz_if_eq (tgt := 317) d_MO_note_310 (by decide) (by decide) (fun c17 => absurd c17 (by decide)) (fun c17 => ?_)
                refine zz_iconst d_MO_note_313 ?_
                refine ab_goto (tgt := 318) d_MO_note_314 (by decide) ?_
                refine ab_istore d_MO_note_318 (Nat.le_of_ble_eq_true rfl) (Nat.le_of_ble_eq_true rfl) rfl ?_
                change ab_W _ _ _ G 320 [some (vR 80), some (vR no), some (vz s), some (vz fr), some (vz to), some (vz al), some (vz n), some (vz p), some (vz gr), some (vz k), some (vz ((12500 * s) + k)), some (vz (A_step ((12500 * s) + k))), some (vz 1)] [] _
                have hz3_ := jz k (by omega) (by omega)
                refine ab_aload_n d_MO_note_320 rfl ?_
                refine ab_getf (fs := mof m_thrown m_taped m_length m_out m_wide m_gathered m_sets m_ranges m_nodes m_at m_flags m_fault m_place m_numbered m_depth m_value m_isNot m_least0 m_most0 m_slot m_work m_got m_rowMany m_charAt m_charWide m_trail m_isMatch m_matchGroups m_allFrom m_allBefore m_founds m_pieces m_writtenMany m_templateWide m_tooMuch) f_MO_187 d_MO_note_321 h80.2.2 rfl ?_
                refine ab_iload d_MO_note_324 rfl ?_
                refine zz_zald d_MO_note_326 h137 (by omega) ?_
                have hq18 := jz k (by omega) (by omega)
                refine zz_if_ne (tgt := 349) d_MO_note_327 (by decide) (by omega) (fun c19 => ?_) (fun c19 => ?_)
                · refine zz_iinc d_MO_note_349 rfl (Nat.le_of_ble_eq_true rfl) (Nat.le_of_ble_eq_true rfl) rfl ?_
                  change ab_W _ _ _ G 352 [some (vR 80), some (vR no), some (vz s), some (vz fr), some (vz to), some (vz al), some (vz n), some (vz p), some (vz gr), some (vz (k + 1)), some (vz ((12500 * s) + k)), some (vz (A_step ((12500 * s) + k))), some (vz 1)] [] _
                  refine ab_goto (tgt := 185) d_MO_note_352 (by decide) ?_
                  refine ab_less (L' := [some (vR 80), some (vR no), some (vz s), some (vz fr), some (vz to), some (vz al), some (vz n), some (vz p), some (vz gr), some (vz (k + 1)), none, none, none]) (fun i v h => by rcases i with _ | _ | _ | _ | _ | _ | _ | _ | _ | _ | _ | _ | _ | i <;> first | exact h | (simp at h)) ?_
                  exact ih (k := (k + 1)) (gr := gr) (Z := Z) h80 h137 h118 h119 h120 h85 (by omega) jz jg (fun h => ncz_s (jq h) (fun q => by unfold nep at q; dsimp only at q; rcases q with ⟨t, q⟩ | ⟨t, q⟩ | ⟨t, u, q⟩ <;> first | omega)) jsq hfr hlen hsl (by omega) hk0
                · refine ab_iload d_MO_note_330 rfl ?_
                  refine zz_if_ne (tgt := 338) d_MO_note_332 (by decide) (by decide) (fun c20 => ?_) (fun c20 => absurd c20 (by decide))
                  have hzs_ := nz_set (Z := Z) (k := k) (n := n) (by omega) (by omega)
                  refine ab_aload_n d_MO_note_338 rfl ?_
                  refine ab_getf (fs := mof m_thrown m_taped m_length m_out m_wide m_gathered m_sets m_ranges m_nodes m_at m_flags m_fault m_place m_numbered m_depth m_value m_isNot m_least0 m_most0 m_slot m_work m_got m_rowMany m_charAt m_charWide m_trail m_isMatch m_matchGroups m_allFrom m_allBefore m_founds m_pieces m_writtenMany m_templateWide m_tooMuch) f_MO_187 d_MO_note_339 h80.2.2 rfl ?_
                  refine ab_iload d_MO_note_342 rfl ?_
                  refine zz_iconst d_MO_note_344 ?_
                  refine zz_zast d_MO_note_345 h137 (by omega) (by decide) (h137.2.1 (by decide)) ?_
                  obtain ⟨G21, eG21⟩ : ∃ z : ab_G, z = List.set G 137 (zb 12500 (zu Z k 1)) := ⟨_, rfl⟩
                  have h80 := h80.keep h137 eG21 (by decide)
                  have h118 := h118.keep h137 eG21 (by decide)
                  have h119 := h119.keep h137 eG21 (by decide)
                  have h120 := h120.keep h137 eG21 (by decide)
                  have h85 := h85.keep h137 eG21 (by decide)
                  have hlen := (z_len eG21).trans hlen
                  have hsl := (z_sl h137 eG21 rfl).trans hsl
                  have hfr := hfr.wr h137 eG21 (by decide)
                  have h137 := h137.kept eG21
                  change ab_W _ _ _ (List.set G 137 (zb 12500 (zu Z k 1))) 346 [some (vR 80), some (vR no), some (vz s), some (vz fr), some (vz to), some (vz al), some (vz n), some (vz p), some (vz gr), some (vz k), some (vz ((12500 * s) + k)), some (vz (A_step ((12500 * s) + k))), some (vz 1)] [] _
                  rw [← eG21]
                  refine zz_iconst d_MO_note_346 ?_
                  refine ab_istore d_MO_note_347 (Nat.le_of_ble_eq_true rfl) (Nat.le_of_ble_eq_true rfl) rfl ?_
                  change ab_W _ _ _ G21 349 [some (vR 80), some (vR no), some (vz s), some (vz fr), some (vz to), some (vz al), some (vz n), some (vz p), some (vz 1), some (vz k), some (vz ((12500 * s) + k)), some (vz (A_step ((12500 * s) + k))), some (vz 1)] [] _
                  refine zz_iinc d_MO_note_349 rfl (Nat.le_of_ble_eq_true rfl) (Nat.le_of_ble_eq_true rfl) rfl ?_
                  change ab_W _ _ _ G21 352 [some (vR 80), some (vR no), some (vz s), some (vz fr), some (vz to), some (vz al), some (vz n), some (vz p), some (vz 1), some (vz (k + 1)), some (vz ((12500 * s) + k)), some (vz (A_step ((12500 * s) + k))), some (vz 1)] [] _
                  refine ab_goto (tgt := 185) d_MO_note_352 (by decide) ?_
                  refine ab_less (L' := [some (vR 80), some (vR no), some (vz s), some (vz fr), some (vz to), some (vz al), some (vz n), some (vz p), some (vz 1), some (vz (k + 1)), none, none, none]) (fun i v h => by rcases i with _ | _ | _ | _ | _ | _ | _ | _ | _ | _ | _ | _ | _ | i <;> first | exact h | (simp at h)) ?_
                  exact ih (k := (k + 1)) (gr := 1) (Z := (zu Z k 1)) h80 h137 h118 h119 h120 h85 (by omega) (rgs_zu jz (by omega)) (ngr_set jg jsg (by omega) (by omega) (by first | exact Or.inl ⟨by omega, by omega⟩ | exact Or.inr (Or.inl ⟨by omega, by omega⟩) | exact Or.inr (Or.inr ⟨by omega, hq15, by omega⟩))) (fun h => absurd h (by decide)) (nsc_up jsq) hfr hlen hsl (by omega) hk0
              · cases hv
                rw [hGe]
                change ab_W _ _ _ G 310 [some (vR 80), some (vR no), some (vz s), some (vz fr), some (vz to), some (vz al), some (vz n), some (vz p), some (vz gr), some (vz k), some (vz ((12500 * s) + k)), some (vz (A_step ((12500 * s) + k))), none] [vz 0] _
                refine zz_if_eq (tgt := 317) d_MO_note_310 (by decide) (by decide) (fun c22 => ?_) (fun c22 => absurd c22 (by decide))
                refine zz_iconst d_MO_note_317 ?_
                refine ab_istore d_MO_note_318 (Nat.le_of_ble_eq_true rfl) (Nat.le_of_ble_eq_true rfl) rfl ?_
                change ab_W _ _ _ G 320 [some (vR 80), some (vR no), some (vz s), some (vz fr), some (vz to), some (vz al), some (vz n), some (vz p), some (vz gr), some (vz k), some (vz ((12500 * s) + k)), some (vz (A_step ((12500 * s) + k))), some (vz 0)] [] _
                have hz3_ := jz k (by omega) (by omega)
                refine ab_aload_n d_MO_note_320 rfl ?_
                refine ab_getf (fs := mof m_thrown m_taped m_length m_out m_wide m_gathered m_sets m_ranges m_nodes m_at m_flags m_fault m_place m_numbered m_depth m_value m_isNot m_least0 m_most0 m_slot m_work m_got m_rowMany m_charAt m_charWide m_trail m_isMatch m_matchGroups m_allFrom m_allBefore m_founds m_pieces m_writtenMany m_templateWide m_tooMuch) f_MO_187 d_MO_note_321 h80.2.2 rfl ?_
                refine ab_iload d_MO_note_324 rfl ?_
                refine zz_zald d_MO_note_326 h137 (by omega) ?_
                have hq23 := jz k (by omega) (by omega)
                refine zz_if_ne (tgt := 349) d_MO_note_327 (by decide) (by omega) (fun c24 => ?_) (fun c24 => ?_)
                · refine zz_iinc d_MO_note_349 rfl (Nat.le_of_ble_eq_true rfl) (Nat.le_of_ble_eq_true rfl) rfl ?_
                  change ab_W _ _ _ G 352 [some (vR 80), some (vR no), some (vz s), some (vz fr), some (vz to), some (vz al), some (vz n), some (vz p), some (vz gr), some (vz (k + 1)), some (vz ((12500 * s) + k)), some (vz (A_step ((12500 * s) + k))), some (vz 0)] [] _
                  refine ab_goto (tgt := 185) d_MO_note_352 (by decide) ?_
                  refine ab_less (L' := [some (vR 80), some (vR no), some (vz s), some (vz fr), some (vz to), some (vz al), some (vz n), some (vz p), some (vz gr), some (vz (k + 1)), none, none, none]) (fun i v h => by rcases i with _ | _ | _ | _ | _ | _ | _ | _ | _ | _ | _ | _ | _ | i <;> first | exact h | (simp at h)) ?_
                  exact ih (k := (k + 1)) (gr := gr) (Z := Z) h80 h137 h118 h119 h120 h85 (by omega) jz jg (fun h => ncz_s (jq h) (fun q => by unfold nep at q; dsimp only at q; rcases q with ⟨t, q⟩ | ⟨t, q⟩ | ⟨t, u, q⟩ <;> first | omega | exact absurd u hq16)) jsq hfr hlen hsl (by omega) hk0
                · refine ab_iload d_MO_note_330 rfl ?_
                  refine zz_if_ne (tgt := 338) d_MO_note_332 (by decide) (by decide) (fun c25 => absurd c25 (by decide)) (fun c25 => ?_)
                  refine ab_goto (tgt := 349) d_MO_note_335 (by decide) ?_
                  refine zz_iinc d_MO_note_349 rfl (Nat.le_of_ble_eq_true rfl) (Nat.le_of_ble_eq_true rfl) rfl ?_
                  change ab_W _ _ _ G 352 [some (vR 80), some (vR no), some (vz s), some (vz fr), some (vz to), some (vz al), some (vz n), some (vz p), some (vz gr), some (vz (k + 1)), some (vz ((12500 * s) + k)), some (vz (A_step ((12500 * s) + k))), some (vz 0)] [] _
                  refine ab_goto (tgt := 185) d_MO_note_352 (by decide) ?_
                  refine ab_less (L' := [some (vR 80), some (vR no), some (vz s), some (vz fr), some (vz to), some (vz al), some (vz n), some (vz p), some (vz gr), some (vz (k + 1)), none, none, none]) (fun i v h => by rcases i with _ | _ | _ | _ | _ | _ | _ | _ | _ | _ | _ | _ | _ | i <;> first | exact h | (simp at h)) ?_
                  exact ih (k := (k + 1)) (gr := gr) (Z := Z) h80 h137 h118 h119 h120 h85 (by omega) jz jg (fun h => ncz_s (jq h) (fun q => by unfold nep at q; dsimp only at q; rcases q with ⟨t, q⟩ | ⟨t, q⟩ | ⟨t, u, q⟩ <;> first | omega | exact absurd u hq16)) jsq hfr hlen hsl (by omega) hk0
        · have hnx_ := hsg_.2.1 (by omega) (by omega)
          have hz1_ := jz (A_next ((12500 * s) + k)) (by omega) (by omega)
          refine ab_aload_n d_MO_note_261 rfl ?_
          refine ab_getf (fs := mof m_thrown m_taped m_length m_out m_wide m_gathered m_sets m_ranges m_nodes m_at m_flags m_fault m_place m_numbered m_depth m_value m_isNot m_least0 m_most0 m_slot m_work m_got m_rowMany m_charAt m_charWide m_trail m_isMatch m_matchGroups m_allFrom m_allBefore m_founds m_pieces m_writtenMany m_templateWide m_tooMuch) f_MO_187 d_MO_note_262 h80.2.2 rfl ?_
          refine ab_aload_n d_MO_note_265 rfl ?_
          refine ab_getf (fs := mof m_thrown m_taped m_length m_out m_wide m_gathered m_sets m_ranges m_nodes m_at m_flags m_fault m_place m_numbered m_depth m_value m_isNot m_least0 m_most0 m_slot m_work m_got m_rowMany m_charAt m_charWide m_trail m_isMatch m_matchGroups m_allFrom m_allBefore m_founds m_pieces m_writtenMany m_templateWide m_tooMuch) f_MO_131 d_MO_note_266 h80.2.2 rfl ?_
          refine ab_iload d_MO_note_269 rfl ?_
          refine zz_iald d_MO_note_271 h119 (by omega) ?_
          refine zz_zald d_MO_note_272 h137 (by omega) ?_
          have hq26 := jz (A_next ((12500 * s) + k)) (by omega) (by omega)
          refine ab_goto (tgt := 318) d_MO_note_273 (by decide) ?_
          refine ab_istore d_MO_note_318 (Nat.le_of_ble_eq_true rfl) (Nat.le_of_ble_eq_true rfl) rfl ?_
          change ab_W _ _ _ G 320 [some (vR 80), some (vR no), some (vz s), some (vz fr), some (vz to), some (vz al), some (vz n), some (vz p), some (vz gr), some (vz k), some (vz ((12500 * s) + k)), some (vz (A_step ((12500 * s) + k))), some (vz (Z (A_next ((12500 * s) + k))))] [] _
          have hz3_ := jz k (by omega) (by omega)
          refine ab_aload_n d_MO_note_320 rfl ?_
          refine ab_getf (fs := mof m_thrown m_taped m_length m_out m_wide m_gathered m_sets m_ranges m_nodes m_at m_flags m_fault m_place m_numbered m_depth m_value m_isNot m_least0 m_most0 m_slot m_work m_got m_rowMany m_charAt m_charWide m_trail m_isMatch m_matchGroups m_allFrom m_allBefore m_founds m_pieces m_writtenMany m_templateWide m_tooMuch) f_MO_187 d_MO_note_321 h80.2.2 rfl ?_
          refine ab_iload d_MO_note_324 rfl ?_
          refine zz_zald d_MO_note_326 h137 (by omega) ?_
          have hq27 := jz k (by omega) (by omega)
          refine zz_if_ne (tgt := 349) d_MO_note_327 (by decide) (by omega) (fun c28 => ?_) (fun c28 => ?_)
          · refine zz_iinc d_MO_note_349 rfl (Nat.le_of_ble_eq_true rfl) (Nat.le_of_ble_eq_true rfl) rfl ?_
            change ab_W _ _ _ G 352 [some (vR 80), some (vR no), some (vz s), some (vz fr), some (vz to), some (vz al), some (vz n), some (vz p), some (vz gr), some (vz (k + 1)), some (vz ((12500 * s) + k)), some (vz (A_step ((12500 * s) + k))), some (vz (Z (A_next ((12500 * s) + k))))] [] _
            refine ab_goto (tgt := 185) d_MO_note_352 (by decide) ?_
            refine ab_less (L' := [some (vR 80), some (vR no), some (vz s), some (vz fr), some (vz to), some (vz al), some (vz n), some (vz p), some (vz gr), some (vz (k + 1)), none, none, none]) (fun i v h => by rcases i with _ | _ | _ | _ | _ | _ | _ | _ | _ | _ | _ | _ | _ | i <;> first | exact h | (simp at h)) ?_
            exact ih (k := (k + 1)) (gr := gr) (Z := Z) h80 h137 h118 h119 h120 h85 (by omega) jz jg (fun h => ncz_s (jq h) (fun q => by unfold nep at q; dsimp only at q; rcases q with ⟨t, q⟩ | ⟨t, q⟩ | ⟨t, u, q⟩ <;> first | omega)) jsq hfr hlen hsl (by omega) hk0
          · refine ab_iload d_MO_note_330 rfl ?_
            refine zz_if_ne (tgt := 338) d_MO_note_332 (by decide) (by omega) (fun c29 => ?_) (fun c29 => ?_)
            · have hzs_ := nz_set (Z := Z) (k := k) (n := n) (by omega) (by omega)
              refine ab_aload_n d_MO_note_338 rfl ?_
              refine ab_getf (fs := mof m_thrown m_taped m_length m_out m_wide m_gathered m_sets m_ranges m_nodes m_at m_flags m_fault m_place m_numbered m_depth m_value m_isNot m_least0 m_most0 m_slot m_work m_got m_rowMany m_charAt m_charWide m_trail m_isMatch m_matchGroups m_allFrom m_allBefore m_founds m_pieces m_writtenMany m_templateWide m_tooMuch) f_MO_187 d_MO_note_339 h80.2.2 rfl ?_
              refine ab_iload d_MO_note_342 rfl ?_
              refine zz_iconst d_MO_note_344 ?_
              refine zz_zast d_MO_note_345 h137 (by omega) (by decide) (h137.2.1 (by decide)) ?_
              obtain ⟨G30, eG30⟩ : ∃ z : ab_G, z = List.set G 137 (zb 12500 (zu Z k 1)) := ⟨_, rfl⟩
              have h80 := h80.keep h137 eG30 (by decide)
              have h118 := h118.keep h137 eG30 (by decide)
              have h119 := h119.keep h137 eG30 (by decide)
              have h120 := h120.keep h137 eG30 (by decide)
              have h85 := h85.keep h137 eG30 (by decide)
              have hlen := (z_len eG30).trans hlen
              have hsl := (z_sl h137 eG30 rfl).trans hsl
              have hfr := hfr.wr h137 eG30 (by decide)
              have h137 := h137.kept eG30
              change ab_W _ _ _ (List.set G 137 (zb 12500 (zu Z k 1))) 346 [some (vR 80), some (vR no), some (vz s), some (vz fr), some (vz to), some (vz al), some (vz n), some (vz p), some (vz gr), some (vz k), some (vz ((12500 * s) + k)), some (vz (A_step ((12500 * s) + k))), some (vz (Z (A_next ((12500 * s) + k))))] [] _
              rw [← eG30]
              refine zz_iconst d_MO_note_346 ?_
              refine ab_istore d_MO_note_347 (Nat.le_of_ble_eq_true rfl) (Nat.le_of_ble_eq_true rfl) rfl ?_
              change ab_W _ _ _ G30 349 [some (vR 80), some (vR no), some (vz s), some (vz fr), some (vz to), some (vz al), some (vz n), some (vz p), some (vz 1), some (vz k), some (vz ((12500 * s) + k)), some (vz (A_step ((12500 * s) + k))), some (vz (Z (A_next ((12500 * s) + k))))] [] _
              refine zz_iinc d_MO_note_349 rfl (Nat.le_of_ble_eq_true rfl) (Nat.le_of_ble_eq_true rfl) rfl ?_
              change ab_W _ _ _ G30 352 [some (vR 80), some (vR no), some (vz s), some (vz fr), some (vz to), some (vz al), some (vz n), some (vz p), some (vz 1), some (vz (k + 1)), some (vz ((12500 * s) + k)), some (vz (A_step ((12500 * s) + k))), some (vz (Z (A_next ((12500 * s) + k))))] [] _
              refine ab_goto (tgt := 185) d_MO_note_352 (by decide) ?_
              refine ab_less (L' := [some (vR 80), some (vR no), some (vz s), some (vz fr), some (vz to), some (vz al), some (vz n), some (vz p), some (vz 1), some (vz (k + 1)), none, none, none]) (fun i v h => by rcases i with _ | _ | _ | _ | _ | _ | _ | _ | _ | _ | _ | _ | _ | i <;> first | exact h | (simp at h)) ?_
              exact ih (k := (k + 1)) (gr := 1) (Z := (zu Z k 1)) h80 h137 h118 h119 h120 h85 (by omega) (rgs_zu jz (by omega)) (ngr_set jg jsg (by omega) (by omega) (by first | exact Or.inl ⟨by omega, by omega⟩ | exact Or.inr (Or.inl ⟨by omega, by omega⟩))) (fun h => absurd h (by decide)) (nsc_up jsq) hfr hlen hsl (by omega) hk0
            · refine ab_goto (tgt := 349) d_MO_note_335 (by decide) ?_
              refine zz_iinc d_MO_note_349 rfl (Nat.le_of_ble_eq_true rfl) (Nat.le_of_ble_eq_true rfl) rfl ?_
              change ab_W _ _ _ G 352 [some (vR 80), some (vR no), some (vz s), some (vz fr), some (vz to), some (vz al), some (vz n), some (vz p), some (vz gr), some (vz (k + 1)), some (vz ((12500 * s) + k)), some (vz (A_step ((12500 * s) + k))), some (vz (Z (A_next ((12500 * s) + k))))] [] _
              refine ab_goto (tgt := 185) d_MO_note_352 (by decide) ?_
              refine ab_less (L' := [some (vR 80), some (vR no), some (vz s), some (vz fr), some (vz to), some (vz al), some (vz n), some (vz p), some (vz gr), some (vz (k + 1)), none, none, none]) (fun i v h => by rcases i with _ | _ | _ | _ | _ | _ | _ | _ | _ | _ | _ | _ | _ | i <;> first | exact h | (simp at h)) ?_
              exact ih (k := (k + 1)) (gr := gr) (Z := Z) h80 h137 h118 h119 h120 h85 (by omega) jz jg (fun h => ncz_s (jq h) (fun q => by unfold nep at q; dsimp only at q; rcases q with ⟨t, q⟩ | ⟨t, q⟩ | ⟨t, u, q⟩ <;> first | omega)) jsq hfr hlen hsl (by omega) hk0
      · have hnx_ := hsg_.2.1 (by omega) (by omega)
        have hz1_ := jz (A_next ((12500 * s) + k)) (by omega) (by omega)
        refine ab_aload_n d_MO_note_217 rfl ?_
        refine ab_getf (fs := mof m_thrown m_taped m_length m_out m_wide m_gathered m_sets m_ranges m_nodes m_at m_flags m_fault m_place m_numbered m_depth m_value m_isNot m_least0 m_most0 m_slot m_work m_got m_rowMany m_charAt m_charWide m_trail m_isMatch m_matchGroups m_allFrom m_allBefore m_founds m_pieces m_writtenMany m_templateWide m_tooMuch) f_MO_187 d_MO_note_218 h80.2.2 rfl ?_
        refine ab_aload_n d_MO_note_221 rfl ?_
        refine ab_getf (fs := mof m_thrown m_taped m_length m_out m_wide m_gathered m_sets m_ranges m_nodes m_at m_flags m_fault m_place m_numbered m_depth m_value m_isNot m_least0 m_most0 m_slot m_work m_got m_rowMany m_charAt m_charWide m_trail m_isMatch m_matchGroups m_allFrom m_allBefore m_founds m_pieces m_writtenMany m_templateWide m_tooMuch) f_MO_131 d_MO_note_222 h80.2.2 rfl ?_
        refine ab_iload d_MO_note_225 rfl ?_
        refine zz_iald d_MO_note_227 h119 (by omega) ?_
        refine zz_zald d_MO_note_228 h137 (by omega) ?_
        have hq31 := jz (A_next ((12500 * s) + k)) (by omega) (by omega)
        refine zz_if_ne (tgt := 247) d_MO_note_229 (by decide) (by omega) (fun c32 => ?_) (fun c32 => ?_)
        · refine zz_iconst d_MO_note_247 ?_
          refine ab_goto (tgt := 318) d_MO_note_248 (by decide) ?_
          refine ab_istore d_MO_note_318 (Nat.le_of_ble_eq_true rfl) (Nat.le_of_ble_eq_true rfl) rfl ?_
          change ab_W _ _ _ G 320 [some (vR 80), some (vR no), some (vz s), some (vz fr), some (vz to), some (vz al), some (vz n), some (vz p), some (vz gr), some (vz k), some (vz ((12500 * s) + k)), some (vz (A_step ((12500 * s) + k))), some (vz 1)] [] _
          have hz3_ := jz k (by omega) (by omega)
          refine ab_aload_n d_MO_note_320 rfl ?_
          refine ab_getf (fs := mof m_thrown m_taped m_length m_out m_wide m_gathered m_sets m_ranges m_nodes m_at m_flags m_fault m_place m_numbered m_depth m_value m_isNot m_least0 m_most0 m_slot m_work m_got m_rowMany m_charAt m_charWide m_trail m_isMatch m_matchGroups m_allFrom m_allBefore m_founds m_pieces m_writtenMany m_templateWide m_tooMuch) f_MO_187 d_MO_note_321 h80.2.2 rfl ?_
          refine ab_iload d_MO_note_324 rfl ?_
          refine zz_zald d_MO_note_326 h137 (by omega) ?_
          have hq33 := jz k (by omega) (by omega)
          refine zz_if_ne (tgt := 349) d_MO_note_327 (by decide) (by omega) (fun c34 => ?_) (fun c34 => ?_)
          · refine zz_iinc d_MO_note_349 rfl (Nat.le_of_ble_eq_true rfl) (Nat.le_of_ble_eq_true rfl) rfl ?_
            change ab_W _ _ _ G 352 [some (vR 80), some (vR no), some (vz s), some (vz fr), some (vz to), some (vz al), some (vz n), some (vz p), some (vz gr), some (vz (k + 1)), some (vz ((12500 * s) + k)), some (vz (A_step ((12500 * s) + k))), some (vz 1)] [] _
            refine ab_goto (tgt := 185) d_MO_note_352 (by decide) ?_
            refine ab_less (L' := [some (vR 80), some (vR no), some (vz s), some (vz fr), some (vz to), some (vz al), some (vz n), some (vz p), some (vz gr), some (vz (k + 1)), none, none, none]) (fun i v h => by rcases i with _ | _ | _ | _ | _ | _ | _ | _ | _ | _ | _ | _ | _ | i <;> first | exact h | (simp at h)) ?_
            exact ih (k := (k + 1)) (gr := gr) (Z := Z) h80 h137 h118 h119 h120 h85 (by omega) jz jg (fun h => ncz_s (jq h) (fun q => by unfold nep at q; dsimp only at q; rcases q with ⟨t, q⟩ | ⟨t, q⟩ | ⟨t, u, q⟩ <;> first | omega)) jsq hfr hlen hsl (by omega) hk0
          · refine ab_iload d_MO_note_330 rfl ?_
            refine zz_if_ne (tgt := 338) d_MO_note_332 (by decide) (by decide) (fun c35 => ?_) (fun c35 => absurd c35 (by decide))
            have hzs_ := nz_set (Z := Z) (k := k) (n := n) (by omega) (by omega)
            refine ab_aload_n d_MO_note_338 rfl ?_
            refine ab_getf (fs := mof m_thrown m_taped m_length m_out m_wide m_gathered m_sets m_ranges m_nodes m_at m_flags m_fault m_place m_numbered m_depth m_value m_isNot m_least0 m_most0 m_slot m_work m_got m_rowMany m_charAt m_charWide m_trail m_isMatch m_matchGroups m_allFrom m_allBefore m_founds m_pieces m_writtenMany m_templateWide m_tooMuch) f_MO_187 d_MO_note_339 h80.2.2 rfl ?_
            refine ab_iload d_MO_note_342 rfl ?_
            refine zz_iconst d_MO_note_344 ?_
            refine zz_zast d_MO_note_345 h137 (by omega) (by decide) (h137.2.1 (by decide)) ?_
            obtain ⟨G36, eG36⟩ : ∃ z : ab_G, z = List.set G 137 (zb 12500 (zu Z k 1)) := ⟨_, rfl⟩
            have h80 := h80.keep h137 eG36 (by decide)
            have h118 := h118.keep h137 eG36 (by decide)
            have h119 := h119.keep h137 eG36 (by decide)
            have h120 := h120.keep h137 eG36 (by decide)
            have h85 := h85.keep h137 eG36 (by decide)
            have hlen := (z_len eG36).trans hlen
            have hsl := (z_sl h137 eG36 rfl).trans hsl
            have hfr := hfr.wr h137 eG36 (by decide)
            have h137 := h137.kept eG36
            change ab_W _ _ _ (List.set G 137 (zb 12500 (zu Z k 1))) 346 [some (vR 80), some (vR no), some (vz s), some (vz fr), some (vz to), some (vz al), some (vz n), some (vz p), some (vz gr), some (vz k), some (vz ((12500 * s) + k)), some (vz (A_step ((12500 * s) + k))), some (vz 1)] [] _
            rw [← eG36]
            refine zz_iconst d_MO_note_346 ?_
            refine ab_istore d_MO_note_347 (Nat.le_of_ble_eq_true rfl) (Nat.le_of_ble_eq_true rfl) rfl ?_
            change ab_W _ _ _ G36 349 [some (vR 80), some (vR no), some (vz s), some (vz fr), some (vz to), some (vz al), some (vz n), some (vz p), some (vz 1), some (vz k), some (vz ((12500 * s) + k)), some (vz (A_step ((12500 * s) + k))), some (vz 1)] [] _
            refine zz_iinc d_MO_note_349 rfl (Nat.le_of_ble_eq_true rfl) (Nat.le_of_ble_eq_true rfl) rfl ?_
            change ab_W _ _ _ G36 352 [some (vR 80), some (vR no), some (vz s), some (vz fr), some (vz to), some (vz al), some (vz n), some (vz p), some (vz 1), some (vz (k + 1)), some (vz ((12500 * s) + k)), some (vz (A_step ((12500 * s) + k))), some (vz 1)] [] _
            refine ab_goto (tgt := 185) d_MO_note_352 (by decide) ?_
            refine ab_less (L' := [some (vR 80), some (vR no), some (vz s), some (vz fr), some (vz to), some (vz al), some (vz n), some (vz p), some (vz 1), some (vz (k + 1)), none, none, none]) (fun i v h => by rcases i with _ | _ | _ | _ | _ | _ | _ | _ | _ | _ | _ | _ | _ | i <;> first | exact h | (simp at h)) ?_
            exact ih (k := (k + 1)) (gr := 1) (Z := (zu Z k 1)) h80 h137 h118 h119 h120 h85 (by omega) (rgs_zu jz (by omega)) (ngr_set jg jsg (by omega) (by omega) (by first | exact Or.inl ⟨by omega, by omega⟩ | exact Or.inr (Or.inl ⟨by omega, by omega⟩))) (fun h => absurd h (by decide)) (nsc_up jsq) hfr hlen hsl (by omega) hk0
        · have hmr_ := hsg_.2.2.1 (by omega)
          have hz2_ := jz (A_more ((12500 * s) + k)) (by omega) (by omega)
          refine ab_aload_n d_MO_note_232 rfl ?_
          refine ab_getf (fs := mof m_thrown m_taped m_length m_out m_wide m_gathered m_sets m_ranges m_nodes m_at m_flags m_fault m_place m_numbered m_depth m_value m_isNot m_least0 m_most0 m_slot m_work m_got m_rowMany m_charAt m_charWide m_trail m_isMatch m_matchGroups m_allFrom m_allBefore m_founds m_pieces m_writtenMany m_templateWide m_tooMuch) f_MO_187 d_MO_note_233 h80.2.2 rfl ?_
          refine ab_aload_n d_MO_note_236 rfl ?_
          refine ab_getf (fs := mof m_thrown m_taped m_length m_out m_wide m_gathered m_sets m_ranges m_nodes m_at m_flags m_fault m_place m_numbered m_depth m_value m_isNot m_least0 m_most0 m_slot m_work m_got m_rowMany m_charAt m_charWide m_trail m_isMatch m_matchGroups m_allFrom m_allBefore m_founds m_pieces m_writtenMany m_templateWide m_tooMuch) f_MO_134 d_MO_note_237 h80.2.2 rfl ?_
          refine ab_iload d_MO_note_240 rfl ?_
          refine zz_iald d_MO_note_242 h120 (by omega) ?_
          refine zz_zald d_MO_note_243 h137 (by omega) ?_
          have hq37 := jz (A_more ((12500 * s) + k)) (by omega) (by omega)
          refine zz_if_eq (tgt := 251) d_MO_note_244 (by decide) (by omega) (fun c38 => ?_) (fun c38 => ?_)
          · refine zz_iconst d_MO_note_251 ?_
            refine ab_goto (tgt := 318) d_MO_note_252 (by decide) ?_
            refine ab_istore d_MO_note_318 (Nat.le_of_ble_eq_true rfl) (Nat.le_of_ble_eq_true rfl) rfl ?_
            change ab_W _ _ _ G 320 [some (vR 80), some (vR no), some (vz s), some (vz fr), some (vz to), some (vz al), some (vz n), some (vz p), some (vz gr), some (vz k), some (vz ((12500 * s) + k)), some (vz (A_step ((12500 * s) + k))), some (vz 0)] [] _
            have hz3_ := jz k (by omega) (by omega)
            refine ab_aload_n d_MO_note_320 rfl ?_
            refine ab_getf (fs := mof m_thrown m_taped m_length m_out m_wide m_gathered m_sets m_ranges m_nodes m_at m_flags m_fault m_place m_numbered m_depth m_value m_isNot m_least0 m_most0 m_slot m_work m_got m_rowMany m_charAt m_charWide m_trail m_isMatch m_matchGroups m_allFrom m_allBefore m_founds m_pieces m_writtenMany m_templateWide m_tooMuch) f_MO_187 d_MO_note_321 h80.2.2 rfl ?_
            refine ab_iload d_MO_note_324 rfl ?_
            refine zz_zald d_MO_note_326 h137 (by omega) ?_
            have hq39 := jz k (by omega) (by omega)
            refine zz_if_ne (tgt := 349) d_MO_note_327 (by decide) (by omega) (fun c40 => ?_) (fun c40 => ?_)
            · refine zz_iinc d_MO_note_349 rfl (Nat.le_of_ble_eq_true rfl) (Nat.le_of_ble_eq_true rfl) rfl ?_
              change ab_W _ _ _ G 352 [some (vR 80), some (vR no), some (vz s), some (vz fr), some (vz to), some (vz al), some (vz n), some (vz p), some (vz gr), some (vz (k + 1)), some (vz ((12500 * s) + k)), some (vz (A_step ((12500 * s) + k))), some (vz 0)] [] _
              refine ab_goto (tgt := 185) d_MO_note_352 (by decide) ?_
              refine ab_less (L' := [some (vR 80), some (vR no), some (vz s), some (vz fr), some (vz to), some (vz al), some (vz n), some (vz p), some (vz gr), some (vz (k + 1)), none, none, none]) (fun i v h => by rcases i with _ | _ | _ | _ | _ | _ | _ | _ | _ | _ | _ | _ | _ | i <;> first | exact h | (simp at h)) ?_
              exact ih (k := (k + 1)) (gr := gr) (Z := Z) h80 h137 h118 h119 h120 h85 (by omega) jz jg (fun h => ncz_s (jq h) (fun q => by unfold nep at q; dsimp only at q; rcases q with ⟨t, q⟩ | ⟨t, q⟩ | ⟨t, u, q⟩ <;> first | omega)) jsq hfr hlen hsl (by omega) hk0
            · refine ab_iload d_MO_note_330 rfl ?_
              refine zz_if_ne (tgt := 338) d_MO_note_332 (by decide) (by decide) (fun c41 => absurd c41 (by decide)) (fun c41 => ?_)
              refine ab_goto (tgt := 349) d_MO_note_335 (by decide) ?_
              refine zz_iinc d_MO_note_349 rfl (Nat.le_of_ble_eq_true rfl) (Nat.le_of_ble_eq_true rfl) rfl ?_
              change ab_W _ _ _ G 352 [some (vR 80), some (vR no), some (vz s), some (vz fr), some (vz to), some (vz al), some (vz n), some (vz p), some (vz gr), some (vz (k + 1)), some (vz ((12500 * s) + k)), some (vz (A_step ((12500 * s) + k))), some (vz 0)] [] _
              refine ab_goto (tgt := 185) d_MO_note_352 (by decide) ?_
              refine ab_less (L' := [some (vR 80), some (vR no), some (vz s), some (vz fr), some (vz to), some (vz al), some (vz n), some (vz p), some (vz gr), some (vz (k + 1)), none, none, none]) (fun i v h => by rcases i with _ | _ | _ | _ | _ | _ | _ | _ | _ | _ | _ | _ | _ | i <;> first | exact h | (simp at h)) ?_
              exact ih (k := (k + 1)) (gr := gr) (Z := Z) h80 h137 h118 h119 h120 h85 (by omega) jz jg (fun h => ncz_s (jq h) (fun q => by unfold nep at q; dsimp only at q; rcases q with ⟨t, q⟩ | ⟨t, q⟩ | ⟨t, u, q⟩ <;> first | omega)) jsq hfr hlen hsl (by omega) hk0
          · refine zz_iconst d_MO_note_247 ?_
            refine ab_goto (tgt := 318) d_MO_note_248 (by decide) ?_
            refine ab_istore d_MO_note_318 (Nat.le_of_ble_eq_true rfl) (Nat.le_of_ble_eq_true rfl) rfl ?_
            change ab_W _ _ _ G 320 [some (vR 80), some (vR no), some (vz s), some (vz fr), some (vz to), some (vz al), some (vz n), some (vz p), some (vz gr), some (vz k), some (vz ((12500 * s) + k)), some (vz (A_step ((12500 * s) + k))), some (vz 1)] [] _
            have hz3_ := jz k (by omega) (by omega)
            refine ab_aload_n d_MO_note_320 rfl ?_
            refine ab_getf (fs := mof m_thrown m_taped m_length m_out m_wide m_gathered m_sets m_ranges m_nodes m_at m_flags m_fault m_place m_numbered m_depth m_value m_isNot m_least0 m_most0 m_slot m_work m_got m_rowMany m_charAt m_charWide m_trail m_isMatch m_matchGroups m_allFrom m_allBefore m_founds m_pieces m_writtenMany m_templateWide m_tooMuch) f_MO_187 d_MO_note_321 h80.2.2 rfl ?_
            refine ab_iload d_MO_note_324 rfl ?_
            refine zz_zald d_MO_note_326 h137 (by omega) ?_
            have hq42 := jz k (by omega) (by omega)
            refine zz_if_ne (tgt := 349) d_MO_note_327 (by decide) (by omega) (fun c43 => ?_) (fun c43 => ?_)
            · refine zz_iinc d_MO_note_349 rfl (Nat.le_of_ble_eq_true rfl) (Nat.le_of_ble_eq_true rfl) rfl ?_
              change ab_W _ _ _ G 352 [some (vR 80), some (vR no), some (vz s), some (vz fr), some (vz to), some (vz al), some (vz n), some (vz p), some (vz gr), some (vz (k + 1)), some (vz ((12500 * s) + k)), some (vz (A_step ((12500 * s) + k))), some (vz 1)] [] _
              refine ab_goto (tgt := 185) d_MO_note_352 (by decide) ?_
              refine ab_less (L' := [some (vR 80), some (vR no), some (vz s), some (vz fr), some (vz to), some (vz al), some (vz n), some (vz p), some (vz gr), some (vz (k + 1)), none, none, none]) (fun i v h => by rcases i with _ | _ | _ | _ | _ | _ | _ | _ | _ | _ | _ | _ | _ | i <;> first | exact h | (simp at h)) ?_
              exact ih (k := (k + 1)) (gr := gr) (Z := Z) h80 h137 h118 h119 h120 h85 (by omega) jz jg (fun h => ncz_s (jq h) (fun q => by unfold nep at q; dsimp only at q; rcases q with ⟨t, q⟩ | ⟨t, q⟩ | ⟨t, u, q⟩ <;> first | omega)) jsq hfr hlen hsl (by omega) hk0
            · refine ab_iload d_MO_note_330 rfl ?_
              refine zz_if_ne (tgt := 338) d_MO_note_332 (by decide) (by decide) (fun c44 => ?_) (fun c44 => absurd c44 (by decide))
              have hzs_ := nz_set (Z := Z) (k := k) (n := n) (by omega) (by omega)
              refine ab_aload_n d_MO_note_338 rfl ?_
              refine ab_getf (fs := mof m_thrown m_taped m_length m_out m_wide m_gathered m_sets m_ranges m_nodes m_at m_flags m_fault m_place m_numbered m_depth m_value m_isNot m_least0 m_most0 m_slot m_work m_got m_rowMany m_charAt m_charWide m_trail m_isMatch m_matchGroups m_allFrom m_allBefore m_founds m_pieces m_writtenMany m_templateWide m_tooMuch) f_MO_187 d_MO_note_339 h80.2.2 rfl ?_
              refine ab_iload d_MO_note_342 rfl ?_
              refine zz_iconst d_MO_note_344 ?_
              refine zz_zast d_MO_note_345 h137 (by omega) (by decide) (h137.2.1 (by decide)) ?_
              obtain ⟨G45, eG45⟩ : ∃ z : ab_G, z = List.set G 137 (zb 12500 (zu Z k 1)) := ⟨_, rfl⟩
              have h80 := h80.keep h137 eG45 (by decide)
              have h118 := h118.keep h137 eG45 (by decide)
              have h119 := h119.keep h137 eG45 (by decide)
              have h120 := h120.keep h137 eG45 (by decide)
              have h85 := h85.keep h137 eG45 (by decide)
              have hlen := (z_len eG45).trans hlen
              have hsl := (z_sl h137 eG45 rfl).trans hsl
              have hfr := hfr.wr h137 eG45 (by decide)
              have h137 := h137.kept eG45
              change ab_W _ _ _ (List.set G 137 (zb 12500 (zu Z k 1))) 346 [some (vR 80), some (vR no), some (vz s), some (vz fr), some (vz to), some (vz al), some (vz n), some (vz p), some (vz gr), some (vz k), some (vz ((12500 * s) + k)), some (vz (A_step ((12500 * s) + k))), some (vz 1)] [] _
              rw [← eG45]
              refine zz_iconst d_MO_note_346 ?_
              refine ab_istore d_MO_note_347 (Nat.le_of_ble_eq_true rfl) (Nat.le_of_ble_eq_true rfl) rfl ?_
              change ab_W _ _ _ G45 349 [some (vR 80), some (vR no), some (vz s), some (vz fr), some (vz to), some (vz al), some (vz n), some (vz p), some (vz 1), some (vz k), some (vz ((12500 * s) + k)), some (vz (A_step ((12500 * s) + k))), some (vz 1)] [] _
              refine zz_iinc d_MO_note_349 rfl (Nat.le_of_ble_eq_true rfl) (Nat.le_of_ble_eq_true rfl) rfl ?_
              change ab_W _ _ _ G45 352 [some (vR 80), some (vR no), some (vz s), some (vz fr), some (vz to), some (vz al), some (vz n), some (vz p), some (vz 1), some (vz (k + 1)), some (vz ((12500 * s) + k)), some (vz (A_step ((12500 * s) + k))), some (vz 1)] [] _
              refine ab_goto (tgt := 185) d_MO_note_352 (by decide) ?_
              refine ab_less (L' := [some (vR 80), some (vR no), some (vz s), some (vz fr), some (vz to), some (vz al), some (vz n), some (vz p), some (vz 1), some (vz (k + 1)), none, none, none]) (fun i v h => by rcases i with _ | _ | _ | _ | _ | _ | _ | _ | _ | _ | _ | _ | _ | i <;> first | exact h | (simp at h)) ?_
              exact ih (k := (k + 1)) (gr := 1) (Z := (zu Z k 1)) h80 h137 h118 h119 h120 h85 (by omega) (rgs_zu jz (by omega)) (ngr_set jg jsg (by omega) (by omega) (by first | exact Or.inl ⟨by omega, by omega⟩ | exact Or.inr (Or.inl ⟨by omega, by omega⟩))) (fun h => absurd h (by decide)) (nsc_up jsq) hfr hlen hsl (by omega) hk0
set_option maxRecDepth 100000 in
set_option maxHeartbeats 4000000 in
theorem y_MO_note_174 {X : ab_X} {d : Nat} {Q : Outcome → ab_G → Prop} {o : Nat → Nat} {G0 : ab_G} {m_thrown : Int} {m_taped : Int} {m_length : Int} {m_out : Int} {m_wide : Int} {m_gathered : Int} {m_sets : Int} {m_ranges : Int} {m_nodes : Int} {m_at : Int} {m_flags : Int} {m_fault : Int} {m_place : Int} {m_numbered : Int} {m_depth : Int} {m_value : Int} {m_isNot : Int} {m_least0 : Int} {m_most0 : Int} {m_slot : Int} {m_work : Int} {m_got : Int} {m_rowMany : Int} {m_charAt : Int} {m_charWide : Int} {m_trail : Int} {m_isMatch : Int} {m_matchGroups : Int} {m_allFrom : Int} {m_allBefore : Int} {m_founds : Int} {m_pieces : Int} {m_writtenMany : Int} {m_templateWide : Int} {m_tooMuch : Int} {A_subject : Int → Int} {A_step : Int → Int} {A_next : Int → Int} {A_more : Int → Int} {A_classAt : Int → Int} {A_classMany : Int → Int} {A_classLow : Int → Int} {A_classHigh : Int → Int} {no : Nat} {NO : Int → Int} {s : Int} {fr : Int} {to : Int} {al : Int} {n : Int} {p : Int} (n18 : ab_n0 = 18) (cle : 0 ≤ m_length ∧ m_length ≤ 2000) (cp : 0 ≤ p ∧ p ≤ fr ∧ fr ≤ m_length) (cs : 0 ≤ s ∧ s ≤ 5 ∧ 0 ≤ n ∧ n ≤ 12500 ∧ 0 ≤ al ∧ al ≤ 1) (jsg : sgood A_step A_next A_more A_classAt A_classMany (12500 * s) n) (jst : rgs A_step 75000 0 6) (jsb : rgs A_subject 2000 0 255) (hd : 4 ≤ d) : ∀ (mz : Nat) {G : ab_G} {gr : Int} {Z : Int → Int}, (cc o G 80 280 (ab_ob 12 (mof m_thrown m_taped m_length m_out m_wide m_gathered m_sets m_ranges m_nodes m_at m_flags m_fault m_place m_numbered m_depth m_value m_isNot m_least0 m_most0 m_slot m_work m_got m_rowMany m_charAt m_charWide m_trail m_isMatch m_matchGroups m_allFrom m_allBefore m_founds m_pieces m_writtenMany m_templateWide m_tooMuch))) → (cc o G 137 337 (zb 12500 Z)) → (cc o G 118 318 (za 75000 A_step)) → (cc o G 119 319 (za 75000 A_next)) → (cc o G 120 320 (za 75000 A_more)) → (cc o G 85 285 (za 2000 A_subject)) → (0 ≤ gr ∧ gr ≤ 1) → (rgs Z 12500 0 1) → (ngr A_step A_next A_more A_classAt A_classMany A_classLow A_classHigh A_subject NO m_length (12500 * s) n fr al p Z) → (gr = 0 → ncz A_step A_next A_more A_subject m_length (12500 * s) p Z n) → (nsc A_step A_next A_classAt A_classMany A_classLow A_classHigh A_subject NO m_length (12500 * s) fr al p Z n) → (fx o o [337] G0 G) → (G.length = G0.length) → (ab_slots G = ab_slots G0) → (Int.toNat (nz Z n + gr) < mz) → (∀ (G2 : ab_G) (Z2 : Int → Int), (cc o G2 137 337 (zb 12500 Z2)) → (rgs Z2 12500 0 1) → (ngr A_step A_next A_more A_classAt A_classMany A_classLow A_classHigh A_subject NO m_length (12500 * s) n fr al p Z2) → (ncz A_step A_next A_more A_subject m_length (12500 * s) p Z2 n) → (nsc A_step A_next A_classAt A_classMany A_classLow A_classHigh A_subject NO m_length (12500 * s) fr al p Z2 n) → (fx o o [337] G0 G2) → (G2.length = G0.length) → (ab_slots G2 = ab_slots G0) → ab_W X (ab_pl y_MO_note b_MO_note 13 none) d G2 358 [some (vR 80), some (vR no), some (vz s), some (vz fr), some (vz to), some (vz al), some (vz n), some (vz p), none, none, none, none, none] [] Q) → ab_W X (ab_pl y_MO_note b_MO_note 13 none) d G 174 [some (vR 80), some (vR no), some (vz s), some (vz fr), some (vz to), some (vz al), some (vz n), some (vz p), some (vz gr), none, none, none, none] [] Q := by
  intro mz
  induction mz with
  | zero => intro G gr Z h80 h137 h118 h119 h120 h85 ci jz jg jq jsq hfr hlen hsl hm hk0; exact absurd hm (Nat.not_lt_zero _)
  | succ mz ih =>
    intro G gr Z h80 h137 h118 h119 h120 h85 ci jz jg jq jsq hfr hlen hsl hm hk0
    have hnz_ := nz_in (Z := Z) (n := n) (by omega)
    refine ab_iload d_MO_note_174 rfl ?_
    refine zz_if_eq (tgt := 358) d_MO_note_176 (by decide) (by omega) (fun c1 => ?_) (fun c1 => ?_)
    · refine ab_less (L' := [some (vR 80), some (vR no), some (vz s), some (vz fr), some (vz to), some (vz al), some (vz n), some (vz p), none, none, none, none, none]) (fun i v h => by rcases i with _ | _ | _ | _ | _ | _ | _ | _ | _ | _ | _ | _ | _ | i <;> first | exact h | (simp at h)) ?_
      exact hk0 _ _ h137 (by exact jz) (by exact jg) (by exact jq (by omega)) (by exact jsq) hfr hlen hsl
    · refine zz_iconst d_MO_note_179 ?_
      refine ab_istore d_MO_note_180 (Nat.le_of_ble_eq_true rfl) (Nat.le_of_ble_eq_true rfl) rfl ?_
      change ab_W _ _ _ G 182 [some (vR 80), some (vR no), some (vz s), some (vz fr), some (vz to), some (vz al), some (vz n), some (vz p), some (vz 0), none, none, none, none] [] _
      refine zz_iconst d_MO_note_182 ?_
      refine ab_istore d_MO_note_183 (Nat.le_of_ble_eq_true rfl) (Nat.le_of_ble_eq_true rfl) rfl ?_
      change ab_W _ _ _ G 185 [some (vR 80), some (vR no), some (vz s), some (vz fr), some (vz to), some (vz al), some (vz n), some (vz p), some (vz 0), some (vz 0), none, none, none] [] _
      refine y_MO_note_185 (m_thrown := m_thrown) (m_taped := m_taped) (m_length := m_length) (m_out := m_out) (m_wide := m_wide) (m_gathered := m_gathered) (m_sets := m_sets) (m_ranges := m_ranges) (m_nodes := m_nodes) (m_at := m_at) (m_flags := m_flags) (m_fault := m_fault) (m_place := m_place) (m_numbered := m_numbered) (m_depth := m_depth) (m_value := m_value) (m_isNot := m_isNot) (m_least0 := m_least0) (m_most0 := m_most0) (m_slot := m_slot) (m_work := m_work) (m_got := m_got) (m_rowMany := m_rowMany) (m_charAt := m_charAt) (m_charWide := m_charWide) (m_trail := m_trail) (m_isMatch := m_isMatch) (m_matchGroups := m_matchGroups) (m_allFrom := m_allFrom) (m_allBefore := m_allBefore) (m_founds := m_founds) (m_pieces := m_pieces) (m_writtenMany := m_writtenMany) (m_templateWide := m_templateWide) (m_tooMuch := m_tooMuch) (A_subject := A_subject) (A_step := A_step) (A_next := A_next) (A_more := A_more) (no := no) (s := s) (fr := fr) (to := to) (al := al) (n := n) (p := p) (z0 := (nz Z n)) (G0 := G) (k := 0) (gr := 0) (Z := Z) (by omega) (by omega) (by omega) (by omega) jsg jst jsb (by omega) (Int.toNat (n - 0) + 1) h80 h137 h118 h119 h120 h85 (by omega) jz jg (fun _ => ncz_0) jsq fx.rf rfl rfl (by omega) (fun G2 g23 Z24 hN137 hq5 hq6 hq7 hq8 hq9 hfk hlk hsk => ?_)
      · have h80 := hfk.get h80 (by decide)
        have h118 := hfk.get h118 (by decide)
        have h119 := hfk.get h119 (by decide)
        have h120 := hfk.get h120 (by decide)
        have h85 := hfk.get h85 (by decide)
        have hfr := hfr.tr hfk (by decide)
        have hlen := hlk.trans hlen
        have hsl := hsk.trans hsl
        have h137 := hN137
        change ab_W _ _ _ G2 355 [some (vR 80), some (vR no), some (vz s), some (vz fr), some (vz to), some (vz al), some (vz n), some (vz p), some (vz g23), none, none, none, none] [] _
        have hnz2_ := nz_in (Z := Z24) (n := n) (by omega)
        refine ab_goto (tgt := 174) d_MO_note_355 (by decide) ?_
        exact ih (gr := g23) (Z := Z24) h80 h137 h118 h119 h120 h85 (by omega) hq6 hq7 hq8 hq9 hfr hlen hsl (by omega) hk0
set_option maxRecDepth 100000 in
set_option maxHeartbeats 4000000 in
theorem y_MO_note_361 {X : ab_X} {d : Nat} {Q : Outcome → ab_G → Prop} {o : Nat → Nat} {G0 : ab_G} {m_thrown : Int} {m_taped : Int} {m_length : Int} {m_out : Int} {m_wide : Int} {m_gathered : Int} {m_sets : Int} {m_ranges : Int} {m_nodes : Int} {m_at : Int} {m_flags : Int} {m_fault : Int} {m_place : Int} {m_numbered : Int} {m_depth : Int} {m_value : Int} {m_isNot : Int} {m_least0 : Int} {m_most0 : Int} {m_slot : Int} {m_work : Int} {m_got : Int} {m_rowMany : Int} {m_charAt : Int} {m_charWide : Int} {m_trail : Int} {m_isMatch : Int} {m_matchGroups : Int} {m_allFrom : Int} {m_allBefore : Int} {m_founds : Int} {m_pieces : Int} {m_writtenMany : Int} {m_templateWide : Int} {m_tooMuch : Int} {no : Nat} {lno : Nat} {Z : Int → Int} {s : Int} {fr : Int} {to : Int} {al : Int} {n : Int} {p : Int} {NO0 : Int → Int} (n18 : ab_n0 = 18) (cno : 334 ≤ lno ∧ lno ≤ 336) (cle : 0 ≤ m_length ∧ m_length ≤ 2000) (cp : 0 ≤ p ∧ p ≤ fr ∧ fr ≤ m_length) (cs : 0 ≤ s ∧ s ≤ 5 ∧ 0 ≤ n ∧ n ≤ 12500 ∧ 0 ≤ al ∧ al ≤ 1) (jz : rgs Z 12500 0 1) (hd : 2 ≤ d) : ∀ (mz : Nat) {G : ab_G} {k : Int} {NO : Int → Int}, (cc o G 80 280 (ab_ob 12 (mof m_thrown m_taped m_length m_out m_wide m_gathered m_sets m_ranges m_nodes m_at m_flags m_fault m_place m_numbered m_depth m_value m_isNot m_least0 m_most0 m_slot m_work m_got m_rowMany m_charAt m_charWide m_trail m_isMatch m_matchGroups m_allFrom m_allBefore m_founds m_pieces m_writtenMany m_templateWide m_tooMuch))) → (cc o G 137 337 (zb 12500 Z)) → (cc o G no lno (zl 392196 NO)) → (0 ≤ k ∧ k ≤ n) → (nmkb NO Z p k) → (nsame NO0 NO p) → (fx o o [lno] G0 G) → (G.length = G0.length) → (ab_slots G = ab_slots G0) → (Int.toNat (n - k) < mz) → (∀ (G2 : ab_G) (NO2 : Int → Int), (cc o G2 no lno (zl 392196 NO2)) → (nmkb NO2 Z p n) → (nsame NO0 NO2 p) → (fx o o [lno] G0 G2) → (G2.length = G0.length) → (ab_slots G2 = ab_slots G0) → ab_W X (ab_pl y_MO_note b_MO_note 13 none) d G2 392 [some (vR 80), some (vR no), some (vz s), some (vz fr), some (vz to), some (vz al), some (vz n), some (vz p), none, none, none, none, none] [] Q) → ab_W X (ab_pl y_MO_note b_MO_note 13 none) d G 361 [some (vR 80), some (vR no), some (vz s), some (vz fr), some (vz to), some (vz al), some (vz n), some (vz p), none, some (vz k), none, none, none] [] Q := by
  intro mz
  induction mz with
  | zero => intro G k NO h80 h137 hno ci jm jsm hfr hlen hsl hm hk0; exact absurd hm (Nat.not_lt_zero _)
  | succ mz ih =>
    intro G k NO h80 h137 hno ci jm jsm hfr hlen hsl hm hk0
    refine ab_iload d_MO_note_361 rfl ?_
    refine ab_iload d_MO_note_363 rfl ?_
    refine zz_icmp_ge (tgt := 392) d_MO_note_365 (by decide) (by omega) (by omega) (fun c1 => ?_) (fun c1 => ?_)
    · refine ab_less (L' := [some (vR 80), some (vR no), some (vz s), some (vz fr), some (vz to), some (vz al), some (vz n), some (vz p), none, none, none, none, none]) (fun i v h => by rcases i with _ | _ | _ | _ | _ | _ | _ | _ | _ | _ | _ | _ | _ | i <;> first | exact h | (simp at h)) ?_
      exact hk0 _ _ hno (by exact (show k = n by omega) ▸ jm) (by exact jsm) hfr hlen hsl
    · have hz3_ := jz k (by omega) (by omega)
      refine ab_aload_n d_MO_note_368 rfl ?_
      refine ab_getf (fs := mof m_thrown m_taped m_length m_out m_wide m_gathered m_sets m_ranges m_nodes m_at m_flags m_fault m_place m_numbered m_depth m_value m_isNot m_least0 m_most0 m_slot m_work m_got m_rowMany m_charAt m_charWide m_trail m_isMatch m_matchGroups m_allFrom m_allBefore m_founds m_pieces m_writtenMany m_templateWide m_tooMuch) f_MO_187 d_MO_note_369 h80.2.2 rfl ?_
      refine ab_iload d_MO_note_372 rfl ?_
      refine zz_zald d_MO_note_374 h137 (by omega) ?_
      have hq2 := jz k (by omega) (by omega)
      refine zz_if_eq (tgt := 386) d_MO_note_375 (by decide) (by omega) (fun c3 => ?_) (fun c3 => ?_)
      · refine zz_iinc d_MO_note_386 rfl (Nat.le_of_ble_eq_true rfl) (Nat.le_of_ble_eq_true rfl) rfl ?_
        change ab_W _ _ _ G 389 [some (vR 80), some (vR no), some (vz s), some (vz fr), some (vz to), some (vz al), some (vz n), some (vz p), none, some (vz (k + 1)), none, none, none] [] _
        refine ab_goto (tgt := 361) d_MO_note_389 (by decide) ?_
        exact ih (k := (k + 1)) (NO := NO) h80 h137 hno (by omega) (nmkb_n jm (by omega)) jsm hfr hlen hsl (by omega) hk0
      · refine ab_aload_n d_MO_note_378 rfl ?_
        refine ab_iload d_MO_note_379 rfl ?_
        refine ab_iload d_MO_note_381 rfl ?_
        refine ab_callS (d' := d - 1) (as := [vR no, vz p, vz k]) (st := []) (z_MO_mark (o := o) (a := no) (l := lno) (A := NO) (p := p) (k := k) hno (by omega) (by have h18 : ab_n0 = 18 := rfl; omega)) (fun oc G2 h => by rcases h with ⟨_, h, _⟩ <;> exact ⟨_, h⟩) (by omega) m_MO_mark ml_MO_536 st_MO_mark (Nat.le_of_ble_eq_true rfl) d_MO_note_383 rfl ?_
        intro v G4 hq
        rcases hq with ⟨B5, hv, hfk, hlk, hsk, hNno, hq6⟩
        cases hv
        have h80 := hfk.get h80 (by simp only [List.mem_cons, List.not_mem_nil, or_false]; omega)
        have h137 := hfk.get h137 (by simp only [List.mem_cons, List.not_mem_nil, or_false]; omega)
        have hfr := hfr.tr hfk (by simp)
        have hlen := hlk.trans hlen
        have hsl := hsk.trans hsl
        have hno := hNno
        change ab_W _ _ _ G4 386 [some (vR 80), some (vR no), some (vz s), some (vz fr), some (vz to), some (vz al), some (vz n), some (vz p), none, some (vz k), none, none, none] [] _
        refine zz_iinc d_MO_note_386 rfl (Nat.le_of_ble_eq_true rfl) (Nat.le_of_ble_eq_true rfl) rfl ?_
        change ab_W _ _ _ G4 389 [some (vR 80), some (vR no), some (vz s), some (vz fr), some (vz to), some (vz al), some (vz n), some (vz p), none, some (vz (k + 1)), none, none, none] [] _
        refine ab_goto (tgt := 361) d_MO_note_389 (by decide) ?_
        exact ih (k := (k + 1)) (NO := B5) h80 h137 hno (by omega) (nmkb_s jm (by omega) hq6) (nsame_mk jsm hq6) hfr hlen hsl (by omega) hk0
