set_option maxRecDepth 100000 in
set_option maxHeartbeats 4000000 in
theorem y_MO_compile_182 {X : ab_X} {d : Nat} {Q : Outcome → ab_G → Prop} {o : Nat → Nat} {G0 : ab_G} {m_thrown : Int} {m_taped : Int} {m_length : Int} {m_out : Int} {m_wide : Int} {m_gathered : Int} {m_sets : Int} {m_ranges : Int} {m_nodes : Int} {m_at : Int} {m_flags : Int} {m_fault : Int} {m_place : Int} {m_numbered : Int} {m_depth : Int} {m_value : Int} {m_isNot : Int} {m_least0 : Int} {m_most0 : Int} {m_slot : Int} {m_work : Int} {m_got : Int} {m_rowMany : Int} {m_charAt : Int} {m_charWide : Int} {m_trail : Int} {m_isMatch : Int} {m_matchGroups : Int} {m_allFrom : Int} {m_allBefore : Int} {m_founds : Int} {m_pieces : Int} {m_writtenMany : Int} {m_templateWide : Int} {m_tooMuch : Int} {NS : Int → Int} {sc : Int} {wi : Int} {tp : Int} {g : Int} {NO0 : Int → Int} (n18 : ab_n0 = 18) (csc : 0 ≤ sc ∧ sc ≤ 5) (jns : rgs NS 120 0 255) (cg : 0 ≤ g ∧ g ≤ 9) (hd : 1 ≤ d) : ∀ (mz : Nat) {G : ab_G} {k : Int} {NO_ : Int → Int}, (cc o G 80 280 (ab_ob 12 (mof m_thrown m_taped m_length m_out m_wide m_gathered m_sets m_ranges m_nodes m_at m_flags m_fault m_place m_numbered m_depth m_value m_isNot m_least0 m_most0 m_slot m_work m_got m_rowMany m_charAt m_charWide m_trail m_isMatch m_matchGroups m_allFrom m_allBefore m_founds m_pieces m_writtenMany m_templateWide m_tooMuch))) → (cc o G 110 310 (za 120 NS)) → (cc o G 126 326 (za 720 NO_)) → (0 ≤ k ∧ k ≤ 12) → (rgs NO_ 720 0 255) → (cpS NO0 NO_ NS (120 * sc) (120 * sc + 12 * g + k) (120 * sc)) → (fx o o [326] G0 G) → (G.length = G0.length) → (ab_slots G = ab_slots G0) → (Int.toNat (12 - k) < mz) → (∀ (G2 : ab_G) (NO_2 : Int → Int), (cc o G2 126 326 (za 720 NO_2)) → (rgs NO_2 720 0 255) → (cpS NO0 NO_2 NS (120 * sc) (120 * sc + 12 * g + 12) (120 * sc)) → (fx o o [326] G0 G2) → (G2.length = G0.length) → (ab_slots G2 = ab_slots G0) → ab_W X (ab_pl y_MO_compile b_MO_compile 6 (some (.int))) d G2 226 [some (vR 80), some (vz sc), some (vz wi), some (vz tp), some (vz g), none] [] Q) → ab_W X (ab_pl y_MO_compile b_MO_compile 6 (some (.int))) d G 182 [some (vR 80), some (vz sc), some (vz wi), some (vz tp), some (vz g), some (vz k)] [] Q := by
  intro mz
  induction mz with
  | zero => intro G k NO_ h80 h110 h126 ci xno_ jcp hfr hlen hsl hm hk0; exact absurd hm (Nat.not_lt_zero _)
  | succ mz ih =>
    intro G k NO_ h80 h110 h126 ci xno_ jcp hfr hlen hsl hm hk0
    refine ab_iload d_MO_compile_182 rfl ?_
    refine zz_bipush d_MO_compile_184 (by decide) ?_
    refine zz_icmp_ge (tgt := 226) d_MO_compile_186 (by decide) (by omega) (by decide) (fun c1 => ?_) (fun c1 => ?_)
    · refine ab_less (L' := [some (vR 80), some (vz sc), some (vz wi), some (vz tp), some (vz g), none]) (fun i v h => by rcases i with _ | _ | _ | _ | _ | _ | i <;> first | exact h | (simp at h)) ?_
      exact hk0 _ _ h126 (by first | exact xno_ | exact rgs_w xno_ (by omega)) (by exact cpS_w jcp (by omega)) hfr hlen hsl
    · refine ab_aload_n d_MO_compile_189 rfl ?_
      refine ab_getf (fs := mof m_thrown m_taped m_length m_out m_wide m_gathered m_sets m_ranges m_nodes m_at m_flags m_fault m_place m_numbered m_depth m_value m_isNot m_least0 m_most0 m_slot m_work m_got m_rowMany m_charAt m_charWide m_trail m_isMatch m_matchGroups m_allFrom m_allBefore m_founds m_pieces m_writtenMany m_templateWide m_tooMuch) f_MO_152 d_MO_compile_190 h80.2.2 rfl ?_
      refine zz_bipush d_MO_compile_193 (by decide) ?_
      refine ab_iload_n d_MO_compile_195 rfl ?_
      refine zz_imul d_MO_compile_196 ?_
      refine zz_bipush d_MO_compile_197 (by decide) ?_
      refine ab_iload d_MO_compile_199 rfl ?_
      refine zz_imul d_MO_compile_201 ?_
      refine zz_iadd d_MO_compile_202 ?_
      refine ab_iload d_MO_compile_203 rfl ?_
      refine zz_iadd d_MO_compile_205 ?_
      refine ab_aload_n d_MO_compile_206 rfl ?_
      refine ab_getf (fs := mof m_thrown m_taped m_length m_out m_wide m_gathered m_sets m_ranges m_nodes m_at m_flags m_fault m_place m_numbered m_depth m_value m_isNot m_least0 m_most0 m_slot m_work m_got m_rowMany m_charAt m_charWide m_trail m_isMatch m_matchGroups m_allFrom m_allBefore m_founds m_pieces m_writtenMany m_templateWide m_tooMuch) f_MO_103 d_MO_compile_207 h80.2.2 rfl ?_
      refine zz_bipush d_MO_compile_210 (by decide) ?_
      refine ab_iload d_MO_compile_212 rfl ?_
      refine zz_imul d_MO_compile_214 ?_
      refine ab_iload d_MO_compile_215 rfl ?_
      refine zz_iadd d_MO_compile_217 ?_
      refine zz_iald d_MO_compile_218 h110 (by omega) ?_
      have hq2 := jns ((12 * g) + k) (by omega) (by omega)
      refine zz_iast d_MO_compile_219 h126 (by omega) (h126.2.1 (by decide)) ?_
      obtain ⟨G3, eG3⟩ : ∃ z : ab_G, z = List.set G 126 (za 720 (zu NO_ (((120 * sc) + (12 * g)) + k) (NS ((12 * g) + k)))) := ⟨_, rfl⟩
      have h80 := h80.keep h126 eG3 (by decide)
      have h110 := h110.keep h126 eG3 (by decide)
      have hlen := (z_len eG3).trans hlen
      have hsl := (z_sl h126 eG3 rfl).trans hsl
      have hfr := hfr.wr h126 eG3 (by decide)
      have h126 := h126.kept eG3
      change ab_W _ _ _ (List.set G 126 (za 720 (zu NO_ (((120 * sc) + (12 * g)) + k) (NS ((12 * g) + k))))) 220 [some (vR 80), some (vz sc), some (vz wi), some (vz tp), some (vz g), some (vz k)] [] _
      rw [← eG3]
      refine zz_iinc d_MO_compile_220 rfl (Nat.le_of_ble_eq_true rfl) (Nat.le_of_ble_eq_true rfl) rfl ?_
      change ab_W _ _ _ G3 223 [some (vR 80), some (vz sc), some (vz wi), some (vz tp), some (vz g), some (vz (k + 1))] [] _
      refine ab_goto (tgt := 182) d_MO_compile_223 (by decide) ?_
      exact ih (k := (k + 1)) (NO_ := (zu NO_ (((120 * sc) + (12 * g)) + k) (NS ((12 * g) + k)))) h80 h110 h126 (by omega) (rgs_zu xno_ (by omega)) (cpS_s jcp (by omega) (by omega) (by omega) (by omega)) hfr hlen hsl (by omega) hk0
set_option maxRecDepth 100000 in
set_option maxHeartbeats 4000000 in
theorem y_MO_compile_135 {X : ab_X} {d : Nat} {Q : Outcome → ab_G → Prop} {o : Nat → Nat} {G0 : ab_G} {m_thrown : Int} {m_taped : Int} {m_length : Int} {m_out : Int} {m_wide : Int} {m_gathered : Int} {m_sets : Int} {m_ranges : Int} {m_nodes : Int} {m_at : Int} {m_flags : Int} {m_fault : Int} {m_place : Int} {m_numbered : Int} {m_depth : Int} {m_value : Int} {m_isNot : Int} {m_least0 : Int} {m_most0 : Int} {m_slot : Int} {m_work : Int} {m_got : Int} {m_rowMany : Int} {m_charAt : Int} {m_charWide : Int} {m_trail : Int} {m_isMatch : Int} {m_matchGroups : Int} {m_allFrom : Int} {m_allBefore : Int} {m_founds : Int} {m_pieces : Int} {m_writtenMany : Int} {m_templateWide : Int} {m_tooMuch : Int} {NS : Int → Int} {NM : Int → Int} {sc : Int} {wi : Int} {tp : Int} {NO0 : Int → Int} {NZ0 : Int → Int} (n18 : ab_n0 = 18) (csc : 0 ≤ sc ∧ sc ≤ 5) (jns : rgs NS 120 0 255) (jnm : rgs NM 10 0 12) (cnu : 0 ≤ m_numbered ∧ m_numbered ≤ 9) (hd : 2 ≤ d) : ∀ (mz : Nat) {G : ab_G} {g : Int} {NO_ : Int → Int} {NZ : Int → Int}, (cc o G 80 280 (ab_ob 12 (mof m_thrown m_taped m_length m_out m_wide m_gathered m_sets m_ranges m_nodes m_at m_flags m_fault m_place m_numbered m_depth m_value m_isNot m_least0 m_most0 m_slot m_work m_got m_rowMany m_charAt m_charWide m_trail m_isMatch m_matchGroups m_allFrom m_allBefore m_founds m_pieces m_writtenMany m_templateWide m_tooMuch))) → (cc o G 110 310 (za 120 NS)) → (cc o G 111 311 (za 10 NM)) → (cc o G 126 326 (za 720 NO_)) → (cc o G 127 327 (za 60 NZ)) → (0 ≤ g ∧ g ≤ 10) → (rgs NO_ 720 0 255) → (rgs NZ 60 0 12) → (cpS NO0 NO_ NS (120 * sc) (120 * sc + 12 * g) (120 * sc)) → (nzI NZ0 NZ NM m_numbered sc g) → (fx o o [326, 327] G0 G) → (G.length = G0.length) → (ab_slots G = ab_slots G0) → (Int.toNat (10 - g) < mz) → (∀ (G2 : ab_G) (NO_2 : Int → Int) (NZ2 : Int → Int), (cc o G2 126 326 (za 720 NO_2)) → (cc o G2 127 327 (za 60 NZ2)) → (rgs NO_2 720 0 255) → (rgs NZ2 60 0 12) → (cpS NO0 NO_2 NS (120 * sc) (120 * sc + 120) (120 * sc)) → (nzI NZ0 NZ2 NM m_numbered sc 10) → (fx o o [326, 327] G0 G2) → (G2.length = G0.length) → (ab_slots G2 = ab_slots G0) → ab_W X (ab_pl y_MO_compile b_MO_compile 6 (some (.int))) d G2 232 [some (vR 80), some (vz sc), some (vz wi), some (vz tp), none, none] [] Q) → ab_W X (ab_pl y_MO_compile b_MO_compile 6 (some (.int))) d G 135 [some (vR 80), some (vz sc), some (vz wi), some (vz tp), some (vz g), none] [] Q := by
  intro mz
  induction mz with
  | zero => intro G g NO_ NZ h80 h110 h111 h126 h127 ci xno_ xnz jcp jnz hfr hlen hsl hm hk0; exact absurd hm (Nat.not_lt_zero _)
  | succ mz ih =>
    intro G g NO_ NZ h80 h110 h111 h126 h127 ci xno_ xnz jcp jnz hfr hlen hsl hm hk0
    refine ab_iload d_MO_compile_135 rfl ?_
    refine zz_bipush d_MO_compile_137 (by decide) ?_
    refine zz_icmp_ge (tgt := 232) d_MO_compile_139 (by decide) (by omega) (by decide) (fun c1 => ?_) (fun c1 => ?_)
    · refine ab_less (L' := [some (vR 80), some (vz sc), some (vz wi), some (vz tp), none, none]) (fun i v h => by rcases i with _ | _ | _ | _ | _ | _ | i <;> first | exact h | (simp at h)) ?_
      exact hk0 _ _ _ h126 h127 (by first | exact xno_ | exact rgs_w xno_ (by omega)) (by first | exact xnz | exact rgs_w xnz (by omega)) (by exact cpS_w jcp (by omega)) (by have t_ := jnz; rw [show g = 10 by omega] at t_; exact t_) hfr hlen hsl
    · refine ab_aload_n d_MO_compile_142 rfl ?_
      refine ab_getf (fs := mof m_thrown m_taped m_length m_out m_wide m_gathered m_sets m_ranges m_nodes m_at m_flags m_fault m_place m_numbered m_depth m_value m_isNot m_least0 m_most0 m_slot m_work m_got m_rowMany m_charAt m_charWide m_trail m_isMatch m_matchGroups m_allFrom m_allBefore m_founds m_pieces m_writtenMany m_templateWide m_tooMuch) f_MO_155 d_MO_compile_143 h80.2.2 rfl ?_
      refine zz_bipush d_MO_compile_146 (by decide) ?_
      refine ab_iload_n d_MO_compile_148 rfl ?_
      refine zz_imul d_MO_compile_149 ?_
      refine ab_iload d_MO_compile_150 rfl ?_
      refine zz_iadd d_MO_compile_152 ?_
      refine ab_iload d_MO_compile_153 rfl ?_
      refine zz_if_le (tgt := 177) d_MO_compile_155 (by decide) (by omega) (fun c2 => ?_) (fun c2 => ?_)
      · refine zz_iconst d_MO_compile_177 ?_
        refine zz_iast d_MO_compile_178 h127 (by omega) (h127.2.1 (by decide)) ?_
        obtain ⟨G3, eG3⟩ : ∃ z : ab_G, z = List.set G 127 (za 60 (zu NZ ((10 * sc) + g) 0)) := ⟨_, rfl⟩
        have h80 := h80.keep h127 eG3 (by decide)
        have h110 := h110.keep h127 eG3 (by decide)
        have h111 := h111.keep h127 eG3 (by decide)
        have h126 := h126.keep h127 eG3 (by decide)
        have hlen := (z_len eG3).trans hlen
        have hsl := (z_sl h127 eG3 rfl).trans hsl
        have hfr := hfr.wr h127 eG3 (by decide)
        have h127 := h127.kept eG3
        change ab_W _ _ _ (List.set G 127 (za 60 (zu NZ ((10 * sc) + g) 0))) 179 [some (vR 80), some (vz sc), some (vz wi), some (vz tp), some (vz g), none] [] _
        rw [← eG3]
        refine zz_iconst d_MO_compile_179 ?_
        refine ab_istore d_MO_compile_180 (Nat.le_of_ble_eq_true rfl) (Nat.le_of_ble_eq_true rfl) rfl ?_
        change ab_W _ _ _ G3 182 [some (vR 80), some (vz sc), some (vz wi), some (vz tp), some (vz g), some (vz 0)] [] _
        refine y_MO_compile_182 (m_thrown := m_thrown) (m_taped := m_taped) (m_length := m_length) (m_out := m_out) (m_wide := m_wide) (m_gathered := m_gathered) (m_sets := m_sets) (m_ranges := m_ranges) (m_nodes := m_nodes) (m_at := m_at) (m_flags := m_flags) (m_fault := m_fault) (m_place := m_place) (m_numbered := m_numbered) (m_depth := m_depth) (m_value := m_value) (m_isNot := m_isNot) (m_least0 := m_least0) (m_most0 := m_most0) (m_slot := m_slot) (m_work := m_work) (m_got := m_got) (m_rowMany := m_rowMany) (m_charAt := m_charAt) (m_charWide := m_charWide) (m_trail := m_trail) (m_isMatch := m_isMatch) (m_matchGroups := m_matchGroups) (m_allFrom := m_allFrom) (m_allBefore := m_allBefore) (m_founds := m_founds) (m_pieces := m_pieces) (m_writtenMany := m_writtenMany) (m_templateWide := m_templateWide) (m_tooMuch := m_tooMuch) (NS := NS) (sc := sc) (wi := wi) (tp := tp) (g := g) (NO0 := NO0) (G0 := G3) (k := 0) (NO_ := NO_) (by omega) (by omega) jns (by omega) (by omega) (Int.toNat (12 - 0) + 1) h80 h110 h126 (by omega) xno_ (cpS_w jcp (by omega)) fx.rf rfl rfl (by omega) (fun G4 NO_25 hN126 hq6 hq7 hfk hlk hsk => ?_)
        · have h80 := hfk.get h80 (by decide)
          have h110 := hfk.get h110 (by decide)
          have h111 := hfk.get h111 (by decide)
          have h127 := hfk.get h127 (by decide)
          have hfr := hfr.tr hfk (by decide)
          have hlen := hlk.trans hlen
          have hsl := hsk.trans hsl
          have h126 := hN126
          change ab_W _ _ _ G4 226 [some (vR 80), some (vz sc), some (vz wi), some (vz tp), some (vz g), none] [] _
          refine zz_iinc d_MO_compile_226 rfl (Nat.le_of_ble_eq_true rfl) (Nat.le_of_ble_eq_true rfl) rfl ?_
          change ab_W _ _ _ G4 229 [some (vR 80), some (vz sc), some (vz wi), some (vz tp), some (vz (g + 1)), none] [] _
          refine ab_goto (tgt := 135) d_MO_compile_229 (by decide) ?_
          exact ih (g := (g + 1)) (NO_ := NO_25) (NZ := (zu NZ ((10 * sc) + g) 0)) h80 h110 h111 h126 h127 (by omega) hq6 (rgs_zu xnz (by omega)) (cpS_w hq7 (by omega)) (nzI_n jnz (by omega) (by omega) (by omega) (by omega)) hfr hlen hsl (by omega) hk0
      · refine ab_iload d_MO_compile_158 rfl ?_
        refine ab_aload_n d_MO_compile_160 rfl ?_
        refine ab_getf (fs := mof m_thrown m_taped m_length m_out m_wide m_gathered m_sets m_ranges m_nodes m_at m_flags m_fault m_place m_numbered m_depth m_value m_isNot m_least0 m_most0 m_slot m_work m_got m_rowMany m_charAt m_charWide m_trail m_isMatch m_matchGroups m_allFrom m_allBefore m_founds m_pieces m_writtenMany m_templateWide m_tooMuch) f_MO_395 d_MO_compile_161 h80.2.2 rfl ?_
        refine zz_icmp_gt (tgt := 177) d_MO_compile_164 (by decide) (by omega) (by omega) (fun c8 => ?_) (fun c8 => ?_)
        · refine zz_iconst d_MO_compile_177 ?_
          refine zz_iast d_MO_compile_178 h127 (by omega) (h127.2.1 (by decide)) ?_
          obtain ⟨G9, eG9⟩ : ∃ z : ab_G, z = List.set G 127 (za 60 (zu NZ ((10 * sc) + g) 0)) := ⟨_, rfl⟩
          have h80 := h80.keep h127 eG9 (by decide)
          have h110 := h110.keep h127 eG9 (by decide)
          have h111 := h111.keep h127 eG9 (by decide)
          have h126 := h126.keep h127 eG9 (by decide)
          have hlen := (z_len eG9).trans hlen
          have hsl := (z_sl h127 eG9 rfl).trans hsl
          have hfr := hfr.wr h127 eG9 (by decide)
          have h127 := h127.kept eG9
          change ab_W _ _ _ (List.set G 127 (za 60 (zu NZ ((10 * sc) + g) 0))) 179 [some (vR 80), some (vz sc), some (vz wi), some (vz tp), some (vz g), none] [] _
          rw [← eG9]
          refine zz_iconst d_MO_compile_179 ?_
          refine ab_istore d_MO_compile_180 (Nat.le_of_ble_eq_true rfl) (Nat.le_of_ble_eq_true rfl) rfl ?_
          change ab_W _ _ _ G9 182 [some (vR 80), some (vz sc), some (vz wi), some (vz tp), some (vz g), some (vz 0)] [] _
          refine y_MO_compile_182 (m_thrown := m_thrown) (m_taped := m_taped) (m_length := m_length) (m_out := m_out) (m_wide := m_wide) (m_gathered := m_gathered) (m_sets := m_sets) (m_ranges := m_ranges) (m_nodes := m_nodes) (m_at := m_at) (m_flags := m_flags) (m_fault := m_fault) (m_place := m_place) (m_numbered := m_numbered) (m_depth := m_depth) (m_value := m_value) (m_isNot := m_isNot) (m_least0 := m_least0) (m_most0 := m_most0) (m_slot := m_slot) (m_work := m_work) (m_got := m_got) (m_rowMany := m_rowMany) (m_charAt := m_charAt) (m_charWide := m_charWide) (m_trail := m_trail) (m_isMatch := m_isMatch) (m_matchGroups := m_matchGroups) (m_allFrom := m_allFrom) (m_allBefore := m_allBefore) (m_founds := m_founds) (m_pieces := m_pieces) (m_writtenMany := m_writtenMany) (m_templateWide := m_templateWide) (m_tooMuch := m_tooMuch) (NS := NS) (sc := sc) (wi := wi) (tp := tp) (g := g) (NO0 := NO0) (G0 := G9) (k := 0) (NO_ := NO_) (by omega) (by omega) jns (by omega) (by omega) (Int.toNat (12 - 0) + 1) h80 h110 h126 (by omega) xno_ (cpS_w jcp (by omega)) fx.rf rfl rfl (by omega) (fun G10 NO_211 hN126 hq12 hq13 hfk hlk hsk => ?_)
          · have h80 := hfk.get h80 (by decide)
            have h110 := hfk.get h110 (by decide)
            have h111 := hfk.get h111 (by decide)
            have h127 := hfk.get h127 (by decide)
            have hfr := hfr.tr hfk (by decide)
            have hlen := hlk.trans hlen
            have hsl := hsk.trans hsl
            have h126 := hN126
            change ab_W _ _ _ G10 226 [some (vR 80), some (vz sc), some (vz wi), some (vz tp), some (vz g), none] [] _
            refine zz_iinc d_MO_compile_226 rfl (Nat.le_of_ble_eq_true rfl) (Nat.le_of_ble_eq_true rfl) rfl ?_
            change ab_W _ _ _ G10 229 [some (vR 80), some (vz sc), some (vz wi), some (vz tp), some (vz (g + 1)), none] [] _
            refine ab_goto (tgt := 135) d_MO_compile_229 (by decide) ?_
            exact ih (g := (g + 1)) (NO_ := NO_211) (NZ := (zu NZ ((10 * sc) + g) 0)) h80 h110 h111 h126 h127 (by omega) hq12 (rgs_zu xnz (by omega)) (cpS_w hq13 (by omega)) (nzI_n jnz (by omega) (by omega) (by omega) (by omega)) hfr hlen hsl (by omega) hk0
        · refine ab_aload_n d_MO_compile_167 rfl ?_
          refine ab_getf (fs := mof m_thrown m_taped m_length m_out m_wide m_gathered m_sets m_ranges m_nodes m_at m_flags m_fault m_place m_numbered m_depth m_value m_isNot m_least0 m_most0 m_slot m_work m_got m_rowMany m_charAt m_charWide m_trail m_isMatch m_matchGroups m_allFrom m_allBefore m_founds m_pieces m_writtenMany m_templateWide m_tooMuch) f_MO_106 d_MO_compile_168 h80.2.2 rfl ?_
          refine ab_iload d_MO_compile_171 rfl ?_
          refine zz_iald d_MO_compile_173 h111 (by omega) ?_
          have hq14 := jnm g (by omega) (by omega)
          refine ab_goto (tgt := 178) d_MO_compile_174 (by decide) ?_
          refine zz_iast d_MO_compile_178 h127 (by omega) (h127.2.1 (by decide)) ?_
          obtain ⟨G15, eG15⟩ : ∃ z : ab_G, z = List.set G 127 (za 60 (zu NZ ((10 * sc) + g) (NM g))) := ⟨_, rfl⟩
          have h80 := h80.keep h127 eG15 (by decide)
          have h110 := h110.keep h127 eG15 (by decide)
          have h111 := h111.keep h127 eG15 (by decide)
          have h126 := h126.keep h127 eG15 (by decide)
          have hlen := (z_len eG15).trans hlen
          have hsl := (z_sl h127 eG15 rfl).trans hsl
          have hfr := hfr.wr h127 eG15 (by decide)
          have h127 := h127.kept eG15
          change ab_W _ _ _ (List.set G 127 (za 60 (zu NZ ((10 * sc) + g) (NM g)))) 179 [some (vR 80), some (vz sc), some (vz wi), some (vz tp), some (vz g), none] [] _
          rw [← eG15]
          refine zz_iconst d_MO_compile_179 ?_
          refine ab_istore d_MO_compile_180 (Nat.le_of_ble_eq_true rfl) (Nat.le_of_ble_eq_true rfl) rfl ?_
          change ab_W _ _ _ G15 182 [some (vR 80), some (vz sc), some (vz wi), some (vz tp), some (vz g), some (vz 0)] [] _
          refine y_MO_compile_182 (m_thrown := m_thrown) (m_taped := m_taped) (m_length := m_length) (m_out := m_out) (m_wide := m_wide) (m_gathered := m_gathered) (m_sets := m_sets) (m_ranges := m_ranges) (m_nodes := m_nodes) (m_at := m_at) (m_flags := m_flags) (m_fault := m_fault) (m_place := m_place) (m_numbered := m_numbered) (m_depth := m_depth) (m_value := m_value) (m_isNot := m_isNot) (m_least0 := m_least0) (m_most0 := m_most0) (m_slot := m_slot) (m_work := m_work) (m_got := m_got) (m_rowMany := m_rowMany) (m_charAt := m_charAt) (m_charWide := m_charWide) (m_trail := m_trail) (m_isMatch := m_isMatch) (m_matchGroups := m_matchGroups) (m_allFrom := m_allFrom) (m_allBefore := m_allBefore) (m_founds := m_founds) (m_pieces := m_pieces) (m_writtenMany := m_writtenMany) (m_templateWide := m_templateWide) (m_tooMuch := m_tooMuch) (NS := NS) (sc := sc) (wi := wi) (tp := tp) (g := g) (NO0 := NO0) (G0 := G15) (k := 0) (NO_ := NO_) (by omega) (by omega) jns (by omega) (by omega) (Int.toNat (12 - 0) + 1) h80 h110 h126 (by omega) xno_ (cpS_w jcp (by omega)) fx.rf rfl rfl (by omega) (fun G16 NO_217 hN126 hq18 hq19 hfk hlk hsk => ?_)
          · have h80 := hfk.get h80 (by decide)
            have h110 := hfk.get h110 (by decide)
            have h111 := hfk.get h111 (by decide)
            have h127 := hfk.get h127 (by decide)
            have hfr := hfr.tr hfk (by decide)
            have hlen := hlk.trans hlen
            have hsl := hsk.trans hsl
            have h126 := hN126
            change ab_W _ _ _ G16 226 [some (vR 80), some (vz sc), some (vz wi), some (vz tp), some (vz g), none] [] _
            refine zz_iinc d_MO_compile_226 rfl (Nat.le_of_ble_eq_true rfl) (Nat.le_of_ble_eq_true rfl) rfl ?_
            change ab_W _ _ _ G16 229 [some (vR 80), some (vz sc), some (vz wi), some (vz tp), some (vz (g + 1)), none] [] _
            refine ab_goto (tgt := 135) d_MO_compile_229 (by decide) ?_
            exact ih (g := (g + 1)) (NO_ := NO_217) (NZ := (zu NZ ((10 * sc) + g) (NM g))) h80 h110 h111 h126 h127 (by omega) hq18 (rgs_zu xnz (by omega)) (cpS_w hq19 (by omega)) (nzI_y jnz (by omega) (by omega) (by omega) (by omega)) hfr hlen hsl (by omega) hk0
