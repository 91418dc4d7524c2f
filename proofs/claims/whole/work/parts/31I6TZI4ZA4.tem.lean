set_option maxRecDepth 100000 in
set_option maxHeartbeats 4000000 in
theorem y_MO_groupAt_87 {X : ab_X} {d : Nat} {Q : Outcome → ab_G → Prop} {o : Nat → Nat} {G0 : ab_G} {m_thrown : Int} {m_taped : Int} {m_length : Int} {m_out : Int} {m_wide : Int} {m_gathered : Int} {m_sets : Int} {m_ranges : Int} {m_nodes : Int} {m_at : Int} {m_flags : Int} {m_fault : Int} {m_place : Int} {m_numbered : Int} {m_depth : Int} {m_value : Int} {m_isNot : Int} {m_least0 : Int} {m_most0 : Int} {m_slot : Int} {m_work : Int} {m_got : Int} {m_rowMany : Int} {m_charAt : Int} {m_charWide : Int} {m_trail : Int} {m_isMatch : Int} {m_matchGroups : Int} {m_allFrom : Int} {m_allBefore : Int} {m_founds : Int} {m_pieces : Int} {m_writtenMany : Int} {m_templateWide : Int} {m_tooMuch : Int} {A_tape : Int → Int} {A_groupsOf : Int → Int} {s : Int} {p : Int} {n : Int} {c : Int} (cg : 0 ≤ s ∧ s ≤ 5 ∧ 0 ≤ p ∧ p < n ∧ n ≤ 2000 ∧ 0 ≤ A_groupsOf s ∧ A_groupsOf s ≤ 9) (jtp : rgs A_tape 2000 0 255) (hd : 1 ≤ d) : ∀ (mz : Nat) {G : ab_G} {z : Int}, (cc o G 80 280 (ab_ob 12 (mof m_thrown m_taped m_length m_out m_wide m_gathered m_sets m_ranges m_nodes m_at m_flags m_fault m_place m_numbered m_depth m_value m_isNot m_least0 m_most0 m_slot m_work m_got m_rowMany m_charAt m_charWide m_trail m_isMatch m_matchGroups m_allFrom m_allBefore m_founds m_pieces m_writtenMany m_templateWide m_tooMuch))) → (cc o G 84 284 (za 2000 A_tape)) → (0 ≤ z ∧ p + 2 + z ≤ n + 1) → (gsc A_tape n p z) → (fx o o [] G0 G) → (G.length = G0.length) → (ab_slots G = ab_slots G0) → (Int.toNat (n + 1 - z) < mz) → (∀ (G2 : ab_G) (z2 : Int), (0 ≤ z2 ∧ p + 2 + z2 ≤ n + 1) → (gsz A_tape n p z2) → (fx o o [] G0 G2) → (G2.length = G0.length) → (ab_slots G2 = ab_slots G0) → ab_W X (ab_pl y_MO_groupAt b_MO_groupAt 9 (some (.int))) d G2 119 [some (vR 80), some (vz s), some (vz p), some (vz n), some (vz c), some (vz z2), none, none, none] [] Q) → ab_W X (ab_pl y_MO_groupAt b_MO_groupAt 9 (some (.int))) d G 87 [some (vR 80), some (vz s), some (vz p), some (vz n), some (vz c), some (vz z), none, none, none] [] Q := by
  intro mz
  induction mz with
  | zero => intro G z h80 h84 ci jz hfr hlen hsl hm hk0; exact absurd hm (Nat.not_lt_zero _)
  | succ mz ih =>
    intro G z h80 h84 ci jz hfr hlen hsl hm hk0
    refine ab_iload_n d_MO_groupAt_87 rfl ?_
    refine zz_iconst d_MO_groupAt_88 ?_
    refine zz_iadd d_MO_groupAt_89 ?_
    refine ab_iload d_MO_groupAt_90 rfl ?_
    refine zz_iadd d_MO_groupAt_92 ?_
    refine ab_iload_n d_MO_groupAt_93 rfl ?_
    refine zz_icmp_ge (tgt := 119) d_MO_groupAt_94 (by decide) (by omega) (by omega) (fun c1 => ?_) (fun c1 => ?_)
    · exact hk0 _ _ (by omega) (by exact ⟨jz.1, jz.2, by omega⟩) hfr hlen hsl
    · refine ab_aload_n d_MO_groupAt_97 rfl ?_
      refine ab_getf (fs := mof m_thrown m_taped m_length m_out m_wide m_gathered m_sets m_ranges m_nodes m_at m_flags m_fault m_place m_numbered m_depth m_value m_isNot m_least0 m_most0 m_slot m_work m_got m_rowMany m_charAt m_charWide m_trail m_isMatch m_matchGroups m_allFrom m_allBefore m_founds m_pieces m_writtenMany m_templateWide m_tooMuch) f_MO_19 d_MO_groupAt_98 h80.2.2 rfl ?_
      refine ab_iload_n d_MO_groupAt_101 rfl ?_
      refine zz_iconst d_MO_groupAt_102 ?_
      refine zz_iadd d_MO_groupAt_103 ?_
      refine ab_iload d_MO_groupAt_104 rfl ?_
      refine zz_iadd d_MO_groupAt_106 ?_
      refine zz_iald d_MO_groupAt_107 h84 (by omega) ?_
      have hq2 := jtp ((p + 2) + z) (by omega) (by omega)
      refine zz_bipush d_MO_groupAt_108 (by decide) ?_
      refine zz_icmp_eq (tgt := 119) d_MO_groupAt_110 (by decide) (by omega) (by decide) (fun c3 => ?_) (fun c3 => ?_)
      · exact hk0 _ _ (by omega) (by exact ⟨jz.1, jz.2, by omega⟩) hfr hlen hsl
      · refine zz_iinc d_MO_groupAt_113 rfl (Nat.le_of_ble_eq_true rfl) (Nat.le_of_ble_eq_true rfl) rfl ?_
        change ab_W _ _ _ G 116 [some (vR 80), some (vz s), some (vz p), some (vz n), some (vz c), some (vz (z + 1)), none, none, none] [] _
        refine ab_goto (tgt := 87) d_MO_groupAt_116 (by decide) ?_
        exact ih (z := (z + 1)) h80 h84 (by omega) (gsc_s jz (by omega) (by omega)) hfr hlen hsl (by omega) hk0
set_option maxRecDepth 100000 in
set_option maxHeartbeats 4000000 in
theorem y_MO_groupAt_185 {X : ab_X} {d : Nat} {Q : Outcome → ab_G → Prop} {o : Nat → Nat} {G0 : ab_G} {m_thrown : Int} {m_taped : Int} {m_length : Int} {m_out : Int} {m_wide : Int} {m_gathered : Int} {m_sets : Int} {m_ranges : Int} {m_nodes : Int} {m_at : Int} {m_flags : Int} {m_fault : Int} {m_place : Int} {m_numbered : Int} {m_depth : Int} {m_value : Int} {m_isNot : Int} {m_least0 : Int} {m_most0 : Int} {m_slot : Int} {m_work : Int} {m_got : Int} {m_rowMany : Int} {m_charAt : Int} {m_charWide : Int} {m_trail : Int} {m_isMatch : Int} {m_matchGroups : Int} {m_allFrom : Int} {m_allBefore : Int} {m_founds : Int} {m_pieces : Int} {m_writtenMany : Int} {m_templateWide : Int} {m_tooMuch : Int} {A_tape : Int → Int} {A_nameSize : Int → Int} {A_nameOf : Int → Int} {A_groupsOf : Int → Int} {s : Int} {p : Int} {n : Int} {z : Int} {g : Int} {c : Int} (cg : 0 ≤ s ∧ s ≤ 5 ∧ 0 ≤ p ∧ p < n ∧ n ≤ 2000 ∧ 0 ≤ A_groupsOf s ∧ A_groupsOf s ≤ 9) (jtp : rgs A_tape 2000 0 255) (jns : rgs A_nameSize 60 0 12) (jnm : rgs A_nameOf 720 0 255) (cgz : 1 ≤ g ∧ g ≤ A_groupsOf s ∧ 0 ≤ z ∧ p + 2 + z < n) (hd : 1 ≤ d) : ∀ (mz : Nat) {G : ab_G} {sm : Int} {k : Int}, (cc o G 80 280 (ab_ob 12 (mof m_thrown m_taped m_length m_out m_wide m_gathered m_sets m_ranges m_nodes m_at m_flags m_fault m_place m_numbered m_depth m_value m_isNot m_least0 m_most0 m_slot m_work m_got m_rowMany m_charAt m_charWide m_trail m_isMatch m_matchGroups m_allFrom m_allBefore m_founds m_pieces m_writtenMany m_templateWide m_tooMuch))) → (cc o G 84 284 (za 2000 A_tape)) → (cc o G 126 326 (za 720 A_nameOf)) → (0 ≤ k ∧ k ≤ z ∧ 0 ≤ sm ∧ sm ≤ 1) → (sm = 1 → 0 < z ∧ A_nameSize (10 * s + g) = z ∧ gpre A_tape A_nameOf s p g k) → (sm = 0 → ¬ gsame A_tape A_nameSize A_nameOf s p z g) → (fx o o [] G0 G) → (G.length = G0.length) → (ab_slots G = ab_slots G0) → (Int.toNat (z - k) < mz) → (∀ (G2 : ab_G) (s2 : Int), (0 ≤ s2 ∧ s2 ≤ 1) → (s2 = 1 → gsame A_tape A_nameSize A_nameOf s p z g) → (s2 = 0 → ¬ gsame A_tape A_nameSize A_nameOf s p z g) → (fx o o [] G0 G2) → (G2.length = G0.length) → (ab_slots G2 = ab_slots G0) → ab_W X (ab_pl y_MO_groupAt b_MO_groupAt 9 (some (.int))) d G2 242 [some (vR 80), some (vz s), some (vz p), some (vz n), some (vz c), some (vz z), some (vz g), some (vz s2), none] [] Q) → ab_W X (ab_pl y_MO_groupAt b_MO_groupAt 9 (some (.int))) d G 185 [some (vR 80), some (vz s), some (vz p), some (vz n), some (vz c), some (vz z), some (vz g), some (vz sm), some (vz k)] [] Q := by
  intro mz
  induction mz with
  | zero => intro G sm k h80 h84 h126 ci jy jx hfr hlen hsl hm hk0; exact absurd hm (Nat.not_lt_zero _)
  | succ mz ih =>
    intro G sm k h80 h84 h126 ci jy jx hfr hlen hsl hm hk0
    refine ab_iload d_MO_groupAt_185 rfl ?_
    refine ab_iload d_MO_groupAt_187 rfl ?_
    refine zz_icmp_ge (tgt := 242) d_MO_groupAt_189 (by decide) (by omega) (by omega) (fun c1 => ?_) (fun c1 => ?_)
    · refine ab_less (L' := [some (vR 80), some (vz s), some (vz p), some (vz n), some (vz c), some (vz z), some (vz g), some (vz sm), none]) (fun i v h => by rcases i with _ | _ | _ | _ | _ | _ | _ | _ | _ | i <;> first | exact h | (simp at h)) ?_
      exact hk0 _ _ (by omega) (by intro h; have t := jy h; exact ⟨t.1, t.2.1, fun j a c => t.2.2 j a (by omega)⟩) (by exact jx) hfr hlen hsl
    · refine ab_iload d_MO_groupAt_192 rfl ?_
      refine zz_if_eq (tgt := 242) d_MO_groupAt_194 (by decide) (by omega) (fun c2 => ?_) (fun c2 => ?_)
      · refine ab_less (L' := [some (vR 80), some (vz s), some (vz p), some (vz n), some (vz c), some (vz z), some (vz g), some (vz sm), none]) (fun i v h => by rcases i with _ | _ | _ | _ | _ | _ | _ | _ | _ | i <;> first | exact h | (simp at h)) ?_
        exact hk0 _ _ (by omega) (by intro h; have t := jy h; exact ⟨t.1, t.2.1, fun j a c => t.2.2 j a (by omega)⟩) (by exact jx) hfr hlen hsl
      · obtain ⟨hy1_, hy2_, _⟩ := jy (by omega)
        have hy3_ := jns (10 * s + g) (by omega) (by omega)
        refine ab_aload_n d_MO_groupAt_197 rfl ?_
        refine ab_getf (fs := mof m_thrown m_taped m_length m_out m_wide m_gathered m_sets m_ranges m_nodes m_at m_flags m_fault m_place m_numbered m_depth m_value m_isNot m_least0 m_most0 m_slot m_work m_got m_rowMany m_charAt m_charWide m_trail m_isMatch m_matchGroups m_allFrom m_allBefore m_founds m_pieces m_writtenMany m_templateWide m_tooMuch) f_MO_152 d_MO_groupAt_198 h80.2.2 rfl ?_
        refine zz_bipush d_MO_groupAt_201 (by decide) ?_
        refine ab_iload_n d_MO_groupAt_203 rfl ?_
        refine zz_imul d_MO_groupAt_204 ?_
        refine zz_bipush d_MO_groupAt_205 (by decide) ?_
        refine ab_iload d_MO_groupAt_207 rfl ?_
        refine zz_imul d_MO_groupAt_209 ?_
        refine zz_iadd d_MO_groupAt_210 ?_
        refine ab_iload d_MO_groupAt_211 rfl ?_
        refine zz_iadd d_MO_groupAt_213 ?_
        refine zz_iald d_MO_groupAt_214 h126 (by omega) ?_
        have hq3 := jnm (((120 * s) + (12 * g)) + k) (by omega) (by omega)
        refine ab_aload_n d_MO_groupAt_215 rfl ?_
        refine ab_getf (fs := mof m_thrown m_taped m_length m_out m_wide m_gathered m_sets m_ranges m_nodes m_at m_flags m_fault m_place m_numbered m_depth m_value m_isNot m_least0 m_most0 m_slot m_work m_got m_rowMany m_charAt m_charWide m_trail m_isMatch m_matchGroups m_allFrom m_allBefore m_founds m_pieces m_writtenMany m_templateWide m_tooMuch) f_MO_19 d_MO_groupAt_216 h80.2.2 rfl ?_
        refine ab_iload_n d_MO_groupAt_219 rfl ?_
        refine zz_iconst d_MO_groupAt_220 ?_
        refine zz_iadd d_MO_groupAt_221 ?_
        refine ab_iload d_MO_groupAt_222 rfl ?_
        refine zz_iadd d_MO_groupAt_224 ?_
        refine zz_iald d_MO_groupAt_225 h84 (by omega) ?_
        have hq4 := jtp ((p + 2) + k) (by omega) (by omega)
        refine zz_icmp_ne (tgt := 233) d_MO_groupAt_226 (by decide) (by omega) (by omega) (fun c5 => ?_) (fun c5 => ?_)
        · refine zz_iconst d_MO_groupAt_233 ?_
          refine ab_istore d_MO_groupAt_234 (Nat.le_of_ble_eq_true rfl) (Nat.le_of_ble_eq_true rfl) rfl ?_
          change ab_W _ _ _ G 236 [some (vR 80), some (vz s), some (vz p), some (vz n), some (vz c), some (vz z), some (vz g), some (vz 0), some (vz k)] [] _
          refine zz_iinc d_MO_groupAt_236 rfl (Nat.le_of_ble_eq_true rfl) (Nat.le_of_ble_eq_true rfl) rfl ?_
          change ab_W _ _ _ G 239 [some (vR 80), some (vz s), some (vz p), some (vz n), some (vz c), some (vz z), some (vz g), some (vz 0), some (vz (k + 1))] [] _
          refine ab_goto (tgt := 185) d_MO_groupAt_239 (by decide) ?_
          exact ih (sm := 0) (k := (k + 1)) h80 h84 h126 (by omega) (fun h => absurd h (by decide)) (fun _ q => by have a := q.2.2 k (by omega) (by omega); omega) hfr hlen hsl (by omega) hk0
        · refine zz_iconst d_MO_groupAt_229 ?_
          refine ab_goto (tgt := 234) d_MO_groupAt_230 (by decide) ?_
          refine ab_istore d_MO_groupAt_234 (Nat.le_of_ble_eq_true rfl) (Nat.le_of_ble_eq_true rfl) rfl ?_
          change ab_W _ _ _ G 236 [some (vR 80), some (vz s), some (vz p), some (vz n), some (vz c), some (vz z), some (vz g), some (vz 1), some (vz k)] [] _
          refine zz_iinc d_MO_groupAt_236 rfl (Nat.le_of_ble_eq_true rfl) (Nat.le_of_ble_eq_true rfl) rfl ?_
          change ab_W _ _ _ G 239 [some (vR 80), some (vz s), some (vz p), some (vz n), some (vz c), some (vz z), some (vz g), some (vz 1), some (vz (k + 1))] [] _
          refine ab_goto (tgt := 185) d_MO_groupAt_239 (by decide) ?_
          exact ih (sm := 1) (k := (k + 1)) h80 h84 h126 (by omega) (fun _ => ⟨(jy (by omega)).1, (jy (by omega)).2.1, gpre_s (jy (by omega)).2.2 (by omega)⟩) (fun h => absurd h (by decide)) hfr hlen hsl (by omega) hk0
set_option maxRecDepth 100000 in
set_option maxHeartbeats 4000000 in
theorem y_MO_groupAt_142 {X : ab_X} {d : Nat} {Q : Outcome → ab_G → Prop} {o : Nat → Nat} {G0 : ab_G} {m_thrown : Int} {m_taped : Int} {m_length : Int} {m_out : Int} {m_wide : Int} {m_gathered : Int} {m_sets : Int} {m_ranges : Int} {m_nodes : Int} {m_at : Int} {m_flags : Int} {m_fault : Int} {m_place : Int} {m_numbered : Int} {m_depth : Int} {m_value : Int} {m_isNot : Int} {m_least0 : Int} {m_most0 : Int} {m_slot : Int} {m_work : Int} {m_got : Int} {m_rowMany : Int} {m_charAt : Int} {m_charWide : Int} {m_trail : Int} {m_isMatch : Int} {m_matchGroups : Int} {m_allFrom : Int} {m_allBefore : Int} {m_founds : Int} {m_pieces : Int} {m_writtenMany : Int} {m_templateWide : Int} {m_tooMuch : Int} {A_tape : Int → Int} {A_nameSize : Int → Int} {A_nameOf : Int → Int} {A_groupsOf : Int → Int} {s : Int} {p : Int} {n : Int} {z : Int} {c : Int} (cg : 0 ≤ s ∧ s ≤ 5 ∧ 0 ≤ p ∧ p < n ∧ n ≤ 2000 ∧ 0 ≤ A_groupsOf s ∧ A_groupsOf s ≤ 9) (jtp : rgs A_tape 2000 0 255) (jns : rgs A_nameSize 60 0 12) (jnm : rgs A_nameOf 720 0 255) (cgz : 0 ≤ z ∧ p + 2 + z < n) (hd : 1 ≤ d) : ∀ (mz : Nat) {G : ab_G} {g : Int}, (cc o G 80 280 (ab_ob 12 (mof m_thrown m_taped m_length m_out m_wide m_gathered m_sets m_ranges m_nodes m_at m_flags m_fault m_place m_numbered m_depth m_value m_isNot m_least0 m_most0 m_slot m_work m_got m_rowMany m_charAt m_charWide m_trail m_isMatch m_matchGroups m_allFrom m_allBefore m_founds m_pieces m_writtenMany m_templateWide m_tooMuch))) → (cc o G 84 284 (za 2000 A_tape)) → (cc o G 126 326 (za 720 A_nameOf)) → (cc o G 127 327 (za 60 A_nameSize)) → (cc o G 114 314 (za 6 A_groupsOf)) → (1 ≤ g ∧ g ≤ A_groupsOf s + 1) → (gnone A_tape A_nameSize A_nameOf s p z g) → (fx o o [] G0 G) → (G.length = G0.length) → (ab_slots G = ab_slots G0) → (Int.toNat (A_groupsOf s + 1 - g) < mz) → (∀ (G2 : ab_G) (g2 : Int), (1 ≤ g2 ∧ g2 ≤ A_groupsOf s) → (gsame A_tape A_nameSize A_nameOf s p z g2) → (fx o o [] G0 G2) → (G2.length = G0.length) → (ab_slots G2 = ab_slots G0) → Q (.returned (some (vz g2))) G2) → (∀ (G2 : ab_G), (gnone A_tape A_nameSize A_nameOf s p z (A_groupsOf s + 1)) → (fx o o [] G0 G2) → (G2.length = G0.length) → (ab_slots G2 = ab_slots G0) → Q (.returned (some (vz (-1)))) G2) → ab_W X (ab_pl y_MO_groupAt b_MO_groupAt 9 (some (.int))) d G 142 [some (vR 80), some (vz s), some (vz p), some (vz n), some (vz c), some (vz z), some (vz g), none, none] [] Q := by
  intro mz
  induction mz with
  | zero => intro G g h80 h84 h126 h127 h114 ci jo hfr hlen hsl hm hk0 hk1; exact absurd hm (Nat.not_lt_zero _)
  | succ mz ih =>
    intro G g h80 h84 h126 h127 h114 ci jo hfr hlen hsl hm hk0 hk1
    refine ab_iload d_MO_groupAt_142 rfl ?_
    refine ab_aload_n d_MO_groupAt_144 rfl ?_
    refine ab_getf (fs := mof m_thrown m_taped m_length m_out m_wide m_gathered m_sets m_ranges m_nodes m_at m_flags m_fault m_place m_numbered m_depth m_value m_isNot m_least0 m_most0 m_slot m_work m_got m_rowMany m_charAt m_charWide m_trail m_isMatch m_matchGroups m_allFrom m_allBefore m_founds m_pieces m_writtenMany m_templateWide m_tooMuch) f_MO_115 d_MO_groupAt_145 h80.2.2 rfl ?_
    refine ab_iload_n d_MO_groupAt_148 rfl ?_
    refine zz_iald d_MO_groupAt_149 h114 (by omega) ?_
    refine zz_icmp_gt (tgt := 256) d_MO_groupAt_150 (by decide) (by omega) (by omega) (fun c1 => ?_) (fun c1 => ?_)
    · refine zz_iconst d_MO_groupAt_256 ?_
      refine zz_iret rfl d_MO_groupAt_257 ?_
      exact hk1 _ (by exact (show g = A_groupsOf s + 1 by omega) ▸ jo) hfr hlen hsl
    · refine ab_iload d_MO_groupAt_153 rfl ?_
      refine zz_if_le (tgt := 179) d_MO_groupAt_155 (by decide) (by omega) (fun c2 => ?_) (fun c2 => ?_)
      · refine zz_iconst d_MO_groupAt_179 ?_
        refine ab_istore d_MO_groupAt_180 (Nat.le_of_ble_eq_true rfl) (Nat.le_of_ble_eq_true rfl) rfl ?_
        change ab_W _ _ _ G 182 [some (vR 80), some (vz s), some (vz p), some (vz n), some (vz c), some (vz z), some (vz g), some (vz 0), none] [] _
        refine zz_iconst d_MO_groupAt_182 ?_
        refine ab_istore d_MO_groupAt_183 (Nat.le_of_ble_eq_true rfl) (Nat.le_of_ble_eq_true rfl) rfl ?_
        change ab_W _ _ _ G 185 [some (vR 80), some (vz s), some (vz p), some (vz n), some (vz c), some (vz z), some (vz g), some (vz 0), some (vz 0)] [] _
        refine y_MO_groupAt_185 (m_thrown := m_thrown) (m_taped := m_taped) (m_length := m_length) (m_out := m_out) (m_wide := m_wide) (m_gathered := m_gathered) (m_sets := m_sets) (m_ranges := m_ranges) (m_nodes := m_nodes) (m_at := m_at) (m_flags := m_flags) (m_fault := m_fault) (m_place := m_place) (m_numbered := m_numbered) (m_depth := m_depth) (m_value := m_value) (m_isNot := m_isNot) (m_least0 := m_least0) (m_most0 := m_most0) (m_slot := m_slot) (m_work := m_work) (m_got := m_got) (m_rowMany := m_rowMany) (m_charAt := m_charAt) (m_charWide := m_charWide) (m_trail := m_trail) (m_isMatch := m_isMatch) (m_matchGroups := m_matchGroups) (m_allFrom := m_allFrom) (m_allBefore := m_allBefore) (m_founds := m_founds) (m_pieces := m_pieces) (m_writtenMany := m_writtenMany) (m_templateWide := m_templateWide) (m_tooMuch := m_tooMuch) (A_tape := A_tape) (A_nameOf := A_nameOf) (s := s) (p := p) (n := n) (z := z) (g := g) (c := c) (G0 := G) (sm := 0) (k := 0) (by omega) jtp jns jnm (by omega) (by omega) (Int.toNat (z - 0) + 1) h80 h84 h126 (by omega) (fun h => absurd h (by decide)) (fun _ q => by have a := q.1; have b := q.2.1; omega) fx.rf rfl rfl (by omega) (fun G3 s24 hq5 hq6 hq7 hfk hlk hsk => ?_)
        · have h80 := hfk.get h80 (by decide)
          have h84 := hfk.get h84 (by decide)
          have h126 := hfk.get h126 (by decide)
          have h127 := hfk.get h127 (by decide)
          have h114 := hfk.get h114 (by decide)
          have hfr := hfr.tr hfk (by decide)
          have hlen := hlk.trans hlen
          have hsl := hsk.trans hsl
          change ab_W _ _ _ G3 242 [some (vR 80), some (vz s), some (vz p), some (vz n), some (vz c), some (vz z), some (vz g), some (vz s24), none] [] _
          refine ab_iload d_MO_groupAt_242 rfl ?_
          refine zz_if_eq (tgt := 250) d_MO_groupAt_244 (by decide) (by omega) (fun c8 => ?_) (fun c8 => ?_)
          · refine zz_iinc d_MO_groupAt_250 rfl (Nat.le_of_ble_eq_true rfl) (Nat.le_of_ble_eq_true rfl) rfl ?_
            change ab_W _ _ _ G3 253 [some (vR 80), some (vz s), some (vz p), some (vz n), some (vz c), some (vz z), some (vz (g + 1)), some (vz s24), none] [] _
            refine ab_goto (tgt := 142) d_MO_groupAt_253 (by decide) ?_
            refine ab_less (L' := [some (vR 80), some (vz s), some (vz p), some (vz n), some (vz c), some (vz z), some (vz (g + 1)), none, none]) (fun i v h => by rcases i with _ | _ | _ | _ | _ | _ | _ | _ | _ | i <;> first | exact h | (simp at h)) ?_
            exact ih (g := (g + 1)) h80 h84 h126 h127 h114 (by omega) (gnone_s jo (hq7 (by omega))) hfr hlen hsl (by omega) hk0 hk1
          · refine ab_iload d_MO_groupAt_247 rfl ?_
            refine zz_iret rfl d_MO_groupAt_249 ?_
            exact hk0 _ _ (by omega) (by exact hq6 (by omega)) hfr hlen hsl
      · refine ab_aload_n d_MO_groupAt_158 rfl ?_
        refine ab_getf (fs := mof m_thrown m_taped m_length m_out m_wide m_gathered m_sets m_ranges m_nodes m_at m_flags m_fault m_place m_numbered m_depth m_value m_isNot m_least0 m_most0 m_slot m_work m_got m_rowMany m_charAt m_charWide m_trail m_isMatch m_matchGroups m_allFrom m_allBefore m_founds m_pieces m_writtenMany m_templateWide m_tooMuch) f_MO_155 d_MO_groupAt_159 h80.2.2 rfl ?_
        refine zz_bipush d_MO_groupAt_162 (by decide) ?_
        refine ab_iload_n d_MO_groupAt_164 rfl ?_
        refine zz_imul d_MO_groupAt_165 ?_
        refine ab_iload d_MO_groupAt_166 rfl ?_
        refine zz_iadd d_MO_groupAt_168 ?_
        refine zz_iald d_MO_groupAt_169 h127 (by omega) ?_
        have hq9 := jns ((10 * s) + g) (by omega) (by omega)
        refine ab_iload d_MO_groupAt_170 rfl ?_
        refine zz_icmp_ne (tgt := 179) d_MO_groupAt_172 (by decide) (by omega) (by omega) (fun c10 => ?_) (fun c10 => ?_)
        · refine zz_iconst d_MO_groupAt_179 ?_
          refine ab_istore d_MO_groupAt_180 (Nat.le_of_ble_eq_true rfl) (Nat.le_of_ble_eq_true rfl) rfl ?_
          change ab_W _ _ _ G 182 [some (vR 80), some (vz s), some (vz p), some (vz n), some (vz c), some (vz z), some (vz g), some (vz 0), none] [] _
          refine zz_iconst d_MO_groupAt_182 ?_
          refine ab_istore d_MO_groupAt_183 (Nat.le_of_ble_eq_true rfl) (Nat.le_of_ble_eq_true rfl) rfl ?_
          change ab_W _ _ _ G 185 [some (vR 80), some (vz s), some (vz p), some (vz n), some (vz c), some (vz z), some (vz g), some (vz 0), some (vz 0)] [] _
          refine y_MO_groupAt_185 (m_thrown := m_thrown) (m_taped := m_taped) (m_length := m_length) (m_out := m_out) (m_wide := m_wide) (m_gathered := m_gathered) (m_sets := m_sets) (m_ranges := m_ranges) (m_nodes := m_nodes) (m_at := m_at) (m_flags := m_flags) (m_fault := m_fault) (m_place := m_place) (m_numbered := m_numbered) (m_depth := m_depth) (m_value := m_value) (m_isNot := m_isNot) (m_least0 := m_least0) (m_most0 := m_most0) (m_slot := m_slot) (m_work := m_work) (m_got := m_got) (m_rowMany := m_rowMany) (m_charAt := m_charAt) (m_charWide := m_charWide) (m_trail := m_trail) (m_isMatch := m_isMatch) (m_matchGroups := m_matchGroups) (m_allFrom := m_allFrom) (m_allBefore := m_allBefore) (m_founds := m_founds) (m_pieces := m_pieces) (m_writtenMany := m_writtenMany) (m_templateWide := m_templateWide) (m_tooMuch := m_tooMuch) (A_tape := A_tape) (A_nameOf := A_nameOf) (s := s) (p := p) (n := n) (z := z) (g := g) (c := c) (G0 := G) (sm := 0) (k := 0) (by omega) jtp jns jnm (by omega) (by omega) (Int.toNat (z - 0) + 1) h80 h84 h126 (by omega) (fun h => absurd h (by decide)) (fun _ q => by have a := q.1; have b := q.2.1; omega) fx.rf rfl rfl (by omega) (fun G11 s212 hq13 hq14 hq15 hfk hlk hsk => ?_)
          · have h80 := hfk.get h80 (by decide)
            have h84 := hfk.get h84 (by decide)
            have h126 := hfk.get h126 (by decide)
            have h127 := hfk.get h127 (by decide)
            have h114 := hfk.get h114 (by decide)
            have hfr := hfr.tr hfk (by decide)
            have hlen := hlk.trans hlen
            have hsl := hsk.trans hsl
            change ab_W _ _ _ G11 242 [some (vR 80), some (vz s), some (vz p), some (vz n), some (vz c), some (vz z), some (vz g), some (vz s212), none] [] _
            refine ab_iload d_MO_groupAt_242 rfl ?_
            refine zz_if_eq (tgt := 250) d_MO_groupAt_244 (by decide) (by omega) (fun c16 => ?_) (fun c16 => ?_)
            · refine zz_iinc d_MO_groupAt_250 rfl (Nat.le_of_ble_eq_true rfl) (Nat.le_of_ble_eq_true rfl) rfl ?_
              change ab_W _ _ _ G11 253 [some (vR 80), some (vz s), some (vz p), some (vz n), some (vz c), some (vz z), some (vz (g + 1)), some (vz s212), none] [] _
              refine ab_goto (tgt := 142) d_MO_groupAt_253 (by decide) ?_
              refine ab_less (L' := [some (vR 80), some (vz s), some (vz p), some (vz n), some (vz c), some (vz z), some (vz (g + 1)), none, none]) (fun i v h => by rcases i with _ | _ | _ | _ | _ | _ | _ | _ | _ | i <;> first | exact h | (simp at h)) ?_
              exact ih (g := (g + 1)) h80 h84 h126 h127 h114 (by omega) (gnone_s jo (hq15 (by omega))) hfr hlen hsl (by omega) hk0 hk1
            · refine ab_iload d_MO_groupAt_247 rfl ?_
              refine zz_iret rfl d_MO_groupAt_249 ?_
              exact hk0 _ _ (by omega) (by exact hq14 (by omega)) hfr hlen hsl
        · refine zz_iconst d_MO_groupAt_175 ?_
          refine ab_goto (tgt := 180) d_MO_groupAt_176 (by decide) ?_
          refine ab_istore d_MO_groupAt_180 (Nat.le_of_ble_eq_true rfl) (Nat.le_of_ble_eq_true rfl) rfl ?_
          change ab_W _ _ _ G 182 [some (vR 80), some (vz s), some (vz p), some (vz n), some (vz c), some (vz z), some (vz g), some (vz 1), none] [] _
          refine zz_iconst d_MO_groupAt_182 ?_
          refine ab_istore d_MO_groupAt_183 (Nat.le_of_ble_eq_true rfl) (Nat.le_of_ble_eq_true rfl) rfl ?_
          change ab_W _ _ _ G 185 [some (vR 80), some (vz s), some (vz p), some (vz n), some (vz c), some (vz z), some (vz g), some (vz 1), some (vz 0)] [] _
          refine y_MO_groupAt_185 (m_thrown := m_thrown) (m_taped := m_taped) (m_length := m_length) (m_out := m_out) (m_wide := m_wide) (m_gathered := m_gathered) (m_sets := m_sets) (m_ranges := m_ranges) (m_nodes := m_nodes) (m_at := m_at) (m_flags := m_flags) (m_fault := m_fault) (m_place := m_place) (m_numbered := m_numbered) (m_depth := m_depth) (m_value := m_value) (m_isNot := m_isNot) (m_least0 := m_least0) (m_most0 := m_most0) (m_slot := m_slot) (m_work := m_work) (m_got := m_got) (m_rowMany := m_rowMany) (m_charAt := m_charAt) (m_charWide := m_charWide) (m_trail := m_trail) (m_isMatch := m_isMatch) (m_matchGroups := m_matchGroups) (m_allFrom := m_allFrom) (m_allBefore := m_allBefore) (m_founds := m_founds) (m_pieces := m_pieces) (m_writtenMany := m_writtenMany) (m_templateWide := m_templateWide) (m_tooMuch := m_tooMuch) (A_tape := A_tape) (A_nameOf := A_nameOf) (s := s) (p := p) (n := n) (z := z) (g := g) (c := c) (G0 := G) (sm := 1) (k := 0) (by omega) jtp jns jnm (by omega) (by omega) (Int.toNat (z - 0) + 1) h80 h84 h126 (by omega) (fun _ => ⟨by omega, by omega, gpre_0⟩) (fun h => absurd h (by decide)) fx.rf rfl rfl (by omega) (fun G17 s218 hq19 hq20 hq21 hfk hlk hsk => ?_)
          · have h80 := hfk.get h80 (by decide)
            have h84 := hfk.get h84 (by decide)
            have h126 := hfk.get h126 (by decide)
            have h127 := hfk.get h127 (by decide)
            have h114 := hfk.get h114 (by decide)
            have hfr := hfr.tr hfk (by decide)
            have hlen := hlk.trans hlen
            have hsl := hsk.trans hsl
            change ab_W _ _ _ G17 242 [some (vR 80), some (vz s), some (vz p), some (vz n), some (vz c), some (vz z), some (vz g), some (vz s218), none] [] _
            refine ab_iload d_MO_groupAt_242 rfl ?_
            refine zz_if_eq (tgt := 250) d_MO_groupAt_244 (by decide) (by omega) (fun c22 => ?_) (fun c22 => ?_)
            · refine zz_iinc d_MO_groupAt_250 rfl (Nat.le_of_ble_eq_true rfl) (Nat.le_of_ble_eq_true rfl) rfl ?_
              change ab_W _ _ _ G17 253 [some (vR 80), some (vz s), some (vz p), some (vz n), some (vz c), some (vz z), some (vz (g + 1)), some (vz s218), none] [] _
              refine ab_goto (tgt := 142) d_MO_groupAt_253 (by decide) ?_
              refine ab_less (L' := [some (vR 80), some (vz s), some (vz p), some (vz n), some (vz c), some (vz z), some (vz (g + 1)), none, none]) (fun i v h => by rcases i with _ | _ | _ | _ | _ | _ | _ | _ | _ | i <;> first | exact h | (simp at h)) ?_
              exact ih (g := (g + 1)) h80 h84 h126 h127 h114 (by omega) (gnone_s jo (hq21 (by omega))) hfr hlen hsl (by omega) hk0 hk1
            · refine ab_iload d_MO_groupAt_247 rfl ?_
              refine zz_iret rfl d_MO_groupAt_249 ?_
              exact hk0 _ _ (by omega) (by exact hq20 (by omega)) hfr hlen hsl
set_option maxRecDepth 100000 in
set_option maxHeartbeats 4000000 in
theorem z_MO_groupAt {X : ab_X} {d : Nat} {o : Nat → Nat} {G : ab_G} {m_thrown : Int} {m_taped : Int} {m_length : Int} {m_out : Int} {m_wide : Int} {m_gathered : Int} {m_sets : Int} {m_ranges : Int} {m_nodes : Int} {m_at : Int} {m_flags : Int} {m_fault : Int} {m_place : Int} {m_numbered : Int} {m_depth : Int} {m_value : Int} {m_isNot : Int} {m_least0 : Int} {m_most0 : Int} {m_slot : Int} {m_work : Int} {m_got : Int} {m_rowMany : Int} {m_charAt : Int} {m_charWide : Int} {m_trail : Int} {m_isMatch : Int} {m_matchGroups : Int} {m_allFrom : Int} {m_allBefore : Int} {m_founds : Int} {m_pieces : Int} {m_writtenMany : Int} {m_templateWide : Int} {m_tooMuch : Int} {A_tape : Int → Int} {A_nameSize : Int → Int} {A_nameOf : Int → Int} {A_groupsOf : Int → Int} {s : Int} {p : Int} {n : Int} (h80 : cc o G 80 280 (ab_ob 12 (mof m_thrown m_taped m_length m_out m_wide m_gathered m_sets m_ranges m_nodes m_at m_flags m_fault m_place m_numbered m_depth m_value m_isNot m_least0 m_most0 m_slot m_work m_got m_rowMany m_charAt m_charWide m_trail m_isMatch m_matchGroups m_allFrom m_allBefore m_founds m_pieces m_writtenMany m_templateWide m_tooMuch))) (h84 : cc o G 84 284 (za 2000 A_tape)) (h126 : cc o G 126 326 (za 720 A_nameOf)) (h127 : cc o G 127 327 (za 60 A_nameSize)) (h114 : cc o G 114 314 (za 6 A_groupsOf)) (n18 : ab_n0 = 18) (cg : 0 ≤ s ∧ s ≤ 5 ∧ 0 ≤ p ∧ p < n ∧ n ≤ 2000 ∧ 0 ≤ A_groupsOf s ∧ A_groupsOf s ≤ 9) (jtp : rgs A_tape 2000 0 255) (jns : rgs A_nameSize 60 0 12) (jnm : rgs A_nameOf 720 0 255) (cd : A_tape p = 36) (hd : 2 ≤ d) : ab_F X d y_MO_groupAt (.code y_MO_groupAt b_MO_groupAt 9 (some (.int))) [vR 80, vz s, vz p, vz n] G (fun oc G2 => (∃ w2 : Int, oc = .returned (some (vz (-1))) ∧ fx o o [280] G G2 ∧ G2.length = G.length ∧ ab_slots G2 = ab_slots G ∧ cc o G2 80 280 (ab_ob 12 (mof m_thrown m_taped m_length m_out m_wide m_gathered m_sets m_ranges m_nodes m_at m_flags m_fault m_place m_numbered m_depth m_value m_isNot m_least0 m_most0 m_slot m_work m_got m_rowMany m_charAt m_charWide m_trail m_isMatch m_matchGroups m_allFrom m_allBefore m_founds m_pieces m_writtenMany w2 m_tooMuch)) ∧ (1 ≤ w2 ∧ w2 ≤ 2010) ∧ (¬ gok A_tape A_nameSize A_nameOf A_groupsOf s n p) ∧ (gwd A_tape n p w2)) ∨ (∃ w2 : Int, oc = .returned (some (vz 100)) ∧ fx o o [280] G G2 ∧ G2.length = G.length ∧ ab_slots G2 = ab_slots G ∧ cc o G2 80 280 (ab_ob 12 (mof m_thrown m_taped m_length m_out m_wide m_gathered m_sets m_ranges m_nodes m_at m_flags m_fault m_place m_numbered m_depth m_value m_isNot m_least0 m_most0 m_slot m_work m_got m_rowMany m_charAt m_charWide m_trail m_isMatch m_matchGroups m_allFrom m_allBefore m_founds m_pieces m_writtenMany w2 m_tooMuch)) ∧ (1 ≤ w2 ∧ w2 ≤ 2010) ∧ (gok A_tape A_nameSize A_nameOf A_groupsOf s n p) ∧ (gwd A_tape n p w2) ∧ (tmI A_tape n (A_groupsOf s) (gNZ A_nameSize s) (gNM A_nameOf s) p 36 w2)) ∨ (∃ g : Int, ∃ w2 : Int, oc = .returned (some (vz g)) ∧ fx o o [280] G G2 ∧ G2.length = G.length ∧ ab_slots G2 = ab_slots G ∧ cc o G2 80 280 (ab_ob 12 (mof m_thrown m_taped m_length m_out m_wide m_gathered m_sets m_ranges m_nodes m_at m_flags m_fault m_place m_numbered m_depth m_value m_isNot m_least0 m_most0 m_slot m_work m_got m_rowMany m_charAt m_charWide m_trail m_isMatch m_matchGroups m_allFrom m_allBefore m_founds m_pieces m_writtenMany w2 m_tooMuch)) ∧ (0 ≤ g ∧ g ≤ 9) ∧ (1 ≤ w2 ∧ w2 ≤ 2010) ∧ (gok A_tape A_nameSize A_nameOf A_groupsOf s n p) ∧ (gwd A_tape n p w2) ∧ (tmI A_tape n (A_groupsOf s) (gNZ A_nameSize s) (gNM A_nameOf s) p (-1 - g) w2))) := by
  refine ab_F_of (by decide +kernel) (Nat.le_of_ble_eq_true rfl) ?_
  obtain ⟨Q, hQ⟩ : ∃ z : Outcome → ab_G → Prop, z = (fun oc G2 => (∃ w2 : Int, oc = .returned (some (vz (-1))) ∧ fx o o [280] G G2 ∧ G2.length = G.length ∧ ab_slots G2 = ab_slots G ∧ cc o G2 80 280 (ab_ob 12 (mof m_thrown m_taped m_length m_out m_wide m_gathered m_sets m_ranges m_nodes m_at m_flags m_fault m_place m_numbered m_depth m_value m_isNot m_least0 m_most0 m_slot m_work m_got m_rowMany m_charAt m_charWide m_trail m_isMatch m_matchGroups m_allFrom m_allBefore m_founds m_pieces m_writtenMany w2 m_tooMuch)) ∧ (1 ≤ w2 ∧ w2 ≤ 2010) ∧ (¬ gok A_tape A_nameSize A_nameOf A_groupsOf s n p) ∧ (gwd A_tape n p w2)) ∨ (∃ w2 : Int, oc = .returned (some (vz 100)) ∧ fx o o [280] G G2 ∧ G2.length = G.length ∧ ab_slots G2 = ab_slots G ∧ cc o G2 80 280 (ab_ob 12 (mof m_thrown m_taped m_length m_out m_wide m_gathered m_sets m_ranges m_nodes m_at m_flags m_fault m_place m_numbered m_depth m_value m_isNot m_least0 m_most0 m_slot m_work m_got m_rowMany m_charAt m_charWide m_trail m_isMatch m_matchGroups m_allFrom m_allBefore m_founds m_pieces m_writtenMany w2 m_tooMuch)) ∧ (1 ≤ w2 ∧ w2 ≤ 2010) ∧ (gok A_tape A_nameSize A_nameOf A_groupsOf s n p) ∧ (gwd A_tape n p w2) ∧ (tmI A_tape n (A_groupsOf s) (gNZ A_nameSize s) (gNM A_nameOf s) p 36 w2)) ∨ (∃ g : Int, ∃ w2 : Int, oc = .returned (some (vz g)) ∧ fx o o [280] G G2 ∧ G2.length = G.length ∧ ab_slots G2 = ab_slots G ∧ cc o G2 80 280 (ab_ob 12 (mof m_thrown m_taped m_length m_out m_wide m_gathered m_sets m_ranges m_nodes m_at m_flags m_fault m_place m_numbered m_depth m_value m_isNot m_least0 m_most0 m_slot m_work m_got m_rowMany m_charAt m_charWide m_trail m_isMatch m_matchGroups m_allFrom m_allBefore m_founds m_pieces m_writtenMany w2 m_tooMuch)) ∧ (0 ≤ g ∧ g ≤ 9) ∧ (1 ≤ w2 ∧ w2 ≤ 2010) ∧ (gok A_tape A_nameSize A_nameOf A_groupsOf s n p) ∧ (gwd A_tape n p w2) ∧ (tmI A_tape n (A_groupsOf s) (gNZ A_nameSize s) (gNM A_nameOf s) p (-1 - g) w2))) := ⟨_, rfl⟩
  rw [← hQ]
  change ab_W X (ab_pl y_MO_groupAt b_MO_groupAt 9 (some (.int))) d G 0 [some (vR 80), some (vz s), some (vz p), some (vz n), none, none, none, none, none] [] Q
  have hfr : fx o o [280] G G := fx.rf
  have hlen : G.length = G.length := rfl
  have hsl : ab_slots G = ab_slots G := rfl
  refine ab_aload_n d_MO_groupAt_0 rfl ?_
  refine ab_getf (fs := mof m_thrown m_taped m_length m_out m_wide m_gathered m_sets m_ranges m_nodes m_at m_flags m_fault m_place m_numbered m_depth m_value m_isNot m_least0 m_most0 m_slot m_work m_got m_rowMany m_charAt m_charWide m_trail m_isMatch m_matchGroups m_allFrom m_allBefore m_founds m_pieces m_writtenMany m_templateWide m_tooMuch) f_MO_19 d_MO_groupAt_1 h80.2.2 rfl ?_
  refine ab_iload_n d_MO_groupAt_4 rfl ?_
  refine ab_iload_n d_MO_groupAt_5 rfl ?_
  refine zz_iconst d_MO_groupAt_6 ?_
  refine zz_iadd d_MO_groupAt_7 ?_
  refine ab_callS (d' := d - 1) (as := [vR 84, vz n, vz (p + 1)]) (st := []) (z_MO_byteOf (o := o) (a := 84) (l := 284) (m := 2000) (f := A_tape) (n := n) (p := (p + 1)) h84 (by omega) jtp) (fun oc G2 h => by rcases h with ⟨_, h, _⟩ <;> exact ⟨_, h⟩) (by omega) m_MO_byteOf ml_MO_229 st_MO_byteOf (Nat.le_of_ble_eq_true rfl) d_MO_groupAt_8 rfl ?_
  intro v G1 hq
  rcases hq with ⟨v2, hv, hGe, hq3, hq4, hq5⟩
  cases hv
  rw [hGe]
  change ab_W _ _ _ G 11 [some (vR 80), some (vz s), some (vz p), some (vz n), none, none, none, none, none] [vz v2] _
  have hcb_ : p + 1 < n → v2 = A_tape (p + 1) := fun q => by rw [hq5]; unfold cb; exact if_pos q
  refine ab_istore d_MO_groupAt_11 (Nat.le_of_ble_eq_true rfl) (Nat.le_of_ble_eq_true rfl) rfl ?_
  change ab_W _ _ _ G 13 [some (vR 80), some (vz s), some (vz p), some (vz n), some (vz v2), none, none, none, none] [] _
  refine ab_aload_n d_MO_groupAt_13 rfl ?_
  refine zz_iconst d_MO_groupAt_14 ?_
  refine ab_putf (fs := mof m_thrown m_taped m_length m_out m_wide m_gathered m_sets m_ranges m_nodes m_at m_flags m_fault m_place m_numbered m_depth m_value m_isNot m_least0 m_most0 m_slot m_work m_got m_rowMany m_charAt m_charWide m_trail m_isMatch m_matchGroups m_allFrom m_allBefore m_founds m_pieces m_writtenMany m_templateWide m_tooMuch) f_MO_603 (Or.inl rfl) d_MO_groupAt_15 h80.2.2 (Nat.le_of_ble_eq_true rfl) (fun _ => ⟨rfl, rfl⟩) (h80.2.1 (by decide)) ?_
  obtain ⟨G6, eG6⟩ : ∃ z : ab_G, z = List.set G 80 (ab_ob 12 (mof m_thrown m_taped m_length m_out m_wide m_gathered m_sets m_ranges m_nodes m_at m_flags m_fault m_place m_numbered m_depth m_value m_isNot m_least0 m_most0 m_slot m_work m_got m_rowMany m_charAt m_charWide m_trail m_isMatch m_matchGroups m_allFrom m_allBefore m_founds m_pieces m_writtenMany 2 m_tooMuch)) := ⟨_, rfl⟩
  have h84 := h84.keep h80 eG6 (by decide)
  have h126 := h126.keep h80 eG6 (by decide)
  have h127 := h127.keep h80 eG6 (by decide)
  have h114 := h114.keep h80 eG6 (by decide)
  have hlen := (z_len eG6).trans hlen
  have hsl := (z_sl h80 eG6 rfl).trans hsl
  have hfr := hfr.wr h80 eG6 (by decide)
  have h80 := h80.kept eG6
  change ab_W _ _ _ (List.set G 80 (ab_ob 12 (mof m_thrown m_taped m_length m_out m_wide m_gathered m_sets m_ranges m_nodes m_at m_flags m_fault m_place m_numbered m_depth m_value m_isNot m_least0 m_most0 m_slot m_work m_got m_rowMany m_charAt m_charWide m_trail m_isMatch m_matchGroups m_allFrom m_allBefore m_founds m_pieces m_writtenMany 2 m_tooMuch))) 18 [some (vR 80), some (vz s), some (vz p), some (vz n), some (vz v2), none, none, none, none] [] _
  rw [← eG6]
  refine ab_iload_n d_MO_groupAt_18 rfl ?_
  refine zz_iconst d_MO_groupAt_19 ?_
  refine zz_iadd d_MO_groupAt_20 ?_
  refine ab_iload_n d_MO_groupAt_21 rfl ?_
  refine zz_icmp_lt (tgt := 27) d_MO_groupAt_22 (by decide) (by omega) (by omega) (fun c7 => ?_) (fun c7 => ?_)
  · refine ab_iload d_MO_groupAt_27 rfl ?_
    refine zz_bipush d_MO_groupAt_29 (by decide) ?_
    refine zz_icmp_ne (tgt := 37) d_MO_groupAt_31 (by decide) (by omega) (by decide) (fun c8 => ?_) (fun c8 => ?_)
    · refine ab_iload d_MO_groupAt_37 rfl ?_
      refine zz_bipush d_MO_groupAt_39 (by decide) ?_
      refine zz_icmp_lt (tgt := 75) d_MO_groupAt_41 (by decide) (by omega) (by decide) (fun c9 => ?_) (fun c9 => ?_)
      · refine ab_iload d_MO_groupAt_75 rfl ?_
        refine zz_bipush d_MO_groupAt_77 (by decide) ?_
        refine zz_icmp_eq (tgt := 84) d_MO_groupAt_79 (by decide) (by omega) (by decide) (fun c10 => absurd c10 (by omega)) (fun c10 => ?_)
        refine zz_iconst d_MO_groupAt_82 ?_
        refine zz_iret rfl d_MO_groupAt_83 ?_
        rw [hQ]; exact (Or.inl ⟨_, rfl, hfr, hlen, hsl, h80, (by omega), (by exact gok_no3 (by omega)), (by exact Or.inr ⟨by omega, rfl⟩)⟩)
      · refine ab_iload d_MO_groupAt_44 rfl ?_
        refine zz_bipush d_MO_groupAt_46 (by decide) ?_
        refine zz_icmp_gt (tgt := 75) d_MO_groupAt_48 (by decide) (by omega) (by decide) (fun c11 => ?_) (fun c11 => ?_)
        · refine ab_iload d_MO_groupAt_75 rfl ?_
          refine zz_bipush d_MO_groupAt_77 (by decide) ?_
          refine zz_icmp_eq (tgt := 84) d_MO_groupAt_79 (by decide) (by omega) (by decide) (fun c12 => ?_) (fun c12 => ?_)
          · refine zz_iconst d_MO_groupAt_84 ?_
            refine ab_istore d_MO_groupAt_85 (Nat.le_of_ble_eq_true rfl) (Nat.le_of_ble_eq_true rfl) rfl ?_
            change ab_W _ _ _ G6 87 [some (vR 80), some (vz s), some (vz p), some (vz n), some (vz v2), some (vz 0), none, none, none] [] _
            refine y_MO_groupAt_87 (m_thrown := m_thrown) (m_taped := m_taped) (m_length := m_length) (m_out := m_out) (m_wide := m_wide) (m_gathered := m_gathered) (m_sets := m_sets) (m_ranges := m_ranges) (m_nodes := m_nodes) (m_at := m_at) (m_flags := m_flags) (m_fault := m_fault) (m_place := m_place) (m_numbered := m_numbered) (m_depth := m_depth) (m_value := m_value) (m_isNot := m_isNot) (m_least0 := m_least0) (m_most0 := m_most0) (m_slot := m_slot) (m_work := m_work) (m_got := m_got) (m_rowMany := m_rowMany) (m_charAt := m_charAt) (m_charWide := m_charWide) (m_trail := m_trail) (m_isMatch := m_isMatch) (m_matchGroups := m_matchGroups) (m_allFrom := m_allFrom) (m_allBefore := m_allBefore) (m_founds := m_founds) (m_pieces := m_pieces) (m_writtenMany := m_writtenMany) (m_templateWide := 2) (m_tooMuch := m_tooMuch) (A_tape := A_tape) (s := s) (p := p) (n := n) (c := v2) (G0 := G6) (z := 0) (by omega) jtp (by omega) (Int.toNat (n + 1 - 0) + 1) h80 h84 (by omega) gsc_0 fx.rf rfl rfl (by omega) (fun G13 z214 hq15 hq16 hfk hlk hsk => ?_)
            · have h80 := hfk.get h80 (by decide)
              have h84 := hfk.get h84 (by decide)
              have h126 := hfk.get h126 (by decide)
              have h127 := hfk.get h127 (by decide)
              have h114 := hfk.get h114 (by decide)
              have hfr := hfr.tr hfk (by decide)
              have hlen := hlk.trans hlen
              have hsl := hsk.trans hsl
              change ab_W _ _ _ G13 119 [some (vR 80), some (vz s), some (vz p), some (vz n), some (vz v2), some (vz z214), none, none, none] [] _
              refine ab_aload_n d_MO_groupAt_119 rfl ?_
              refine zz_iconst d_MO_groupAt_120 ?_
              refine ab_iload d_MO_groupAt_121 rfl ?_
              refine zz_iadd d_MO_groupAt_123 ?_
              refine ab_putf (fs := mof m_thrown m_taped m_length m_out m_wide m_gathered m_sets m_ranges m_nodes m_at m_flags m_fault m_place m_numbered m_depth m_value m_isNot m_least0 m_most0 m_slot m_work m_got m_rowMany m_charAt m_charWide m_trail m_isMatch m_matchGroups m_allFrom m_allBefore m_founds m_pieces m_writtenMany 2 m_tooMuch) f_MO_603 (Or.inl rfl) d_MO_groupAt_124 h80.2.2 (Nat.le_of_ble_eq_true rfl) (fun _ => ⟨rfl, rfl⟩) (h80.2.1 (by decide)) ?_
              obtain ⟨G17, eG17⟩ : ∃ z : ab_G, z = List.set G13 80 (ab_ob 12 (mof m_thrown m_taped m_length m_out m_wide m_gathered m_sets m_ranges m_nodes m_at m_flags m_fault m_place m_numbered m_depth m_value m_isNot m_least0 m_most0 m_slot m_work m_got m_rowMany m_charAt m_charWide m_trail m_isMatch m_matchGroups m_allFrom m_allBefore m_founds m_pieces m_writtenMany (3 + z214) m_tooMuch)) := ⟨_, rfl⟩
              have h84 := h84.keep h80 eG17 (by decide)
              have h126 := h126.keep h80 eG17 (by decide)
              have h127 := h127.keep h80 eG17 (by decide)
              have h114 := h114.keep h80 eG17 (by decide)
              have hlen := (z_len eG17).trans hlen
              have hsl := (z_sl h80 eG17 rfl).trans hsl
              have hfr := hfr.wr h80 eG17 (by decide)
              have h80 := h80.kept eG17
              change ab_W _ _ _ (List.set G13 80 (ab_ob 12 (mof m_thrown m_taped m_length m_out m_wide m_gathered m_sets m_ranges m_nodes m_at m_flags m_fault m_place m_numbered m_depth m_value m_isNot m_least0 m_most0 m_slot m_work m_got m_rowMany m_charAt m_charWide m_trail m_isMatch m_matchGroups m_allFrom m_allBefore m_founds m_pieces m_writtenMany (3 + z214) m_tooMuch))) 127 [some (vR 80), some (vz s), some (vz p), some (vz n), some (vz v2), some (vz z214), none, none, none] [] _
              rw [← eG17]
              refine ab_iload_n d_MO_groupAt_127 rfl ?_
              refine zz_iconst d_MO_groupAt_128 ?_
              refine zz_iadd d_MO_groupAt_129 ?_
              refine ab_iload d_MO_groupAt_130 rfl ?_
              refine zz_iadd d_MO_groupAt_132 ?_
              refine ab_iload_n d_MO_groupAt_133 rfl ?_
              refine zz_icmp_lt (tgt := 139) d_MO_groupAt_134 (by decide) (by omega) (by omega) (fun c18 => ?_) (fun c18 => ?_)
              · refine zz_iconst d_MO_groupAt_139 ?_
                refine ab_istore d_MO_groupAt_140 (Nat.le_of_ble_eq_true rfl) (Nat.le_of_ble_eq_true rfl) rfl ?_
                change ab_W _ _ _ G17 142 [some (vR 80), some (vz s), some (vz p), some (vz n), some (vz v2), some (vz z214), some (vz 1), none, none] [] _
                refine y_MO_groupAt_142 (m_thrown := m_thrown) (m_taped := m_taped) (m_length := m_length) (m_out := m_out) (m_wide := m_wide) (m_gathered := m_gathered) (m_sets := m_sets) (m_ranges := m_ranges) (m_nodes := m_nodes) (m_at := m_at) (m_flags := m_flags) (m_fault := m_fault) (m_place := m_place) (m_numbered := m_numbered) (m_depth := m_depth) (m_value := m_value) (m_isNot := m_isNot) (m_least0 := m_least0) (m_most0 := m_most0) (m_slot := m_slot) (m_work := m_work) (m_got := m_got) (m_rowMany := m_rowMany) (m_charAt := m_charAt) (m_charWide := m_charWide) (m_trail := m_trail) (m_isMatch := m_isMatch) (m_matchGroups := m_matchGroups) (m_allFrom := m_allFrom) (m_allBefore := m_allBefore) (m_founds := m_founds) (m_pieces := m_pieces) (m_writtenMany := m_writtenMany) (m_templateWide := (3 + z214)) (m_tooMuch := m_tooMuch) (A_tape := A_tape) (A_nameSize := A_nameSize) (A_nameOf := A_nameOf) (A_groupsOf := A_groupsOf) (s := s) (p := p) (n := n) (z := z214) (c := v2) (G0 := G17) (g := 1) (by omega) jtp jns jnm (by omega) (by omega) (Int.toNat (A_groupsOf s + 1 - 1) + 1) h80 h84 h126 h127 h114 (by omega) gnone_0 fx.rf rfl rfl (by omega) (fun G19 g220 hq21 hq22 hfk hlk hsk => ?_) (fun G23 hq24 hfk hlk hsk => ?_)
                · have h80 := hfk.get h80 (by decide)
                  have h84 := hfk.get h84 (by decide)
                  have h126 := hfk.get h126 (by decide)
                  have h127 := hfk.get h127 (by decide)
                  have h114 := hfk.get h114 (by decide)
                  have hfr := hfr.tr hfk (by decide)
                  have hlen := hlk.trans hlen
                  have hsl := hsk.trans hsl
                  rw [hQ]; exact (Or.inr (Or.inr ⟨_, _, rfl, hfr, hlen, hsl, h80, (by omega), (by omega), (by exact ⟨by omega, Or.inr (Or.inr ⟨by omega, _, hq16, by omega, _, (by omega : 1 ≤ g220), by omega, hq22⟩)⟩), (by exact Or.inl ⟨by omega, _, hq16, rfl⟩), (by exact Or.inr (Or.inr (Or.inr ⟨by omega, by omega, by omega, _, _, hq16, by omega, by omega, gsame_G hq22, rfl, rfl⟩)))⟩))
                · have h80 := hfk.get h80 (by decide)
                  have h84 := hfk.get h84 (by decide)
                  have h126 := hfk.get h126 (by decide)
                  have h127 := hfk.get h127 (by decide)
                  have h114 := hfk.get h114 (by decide)
                  have hfr := hfr.tr hfk (by decide)
                  have hlen := hlk.trans hlen
                  have hsl := hsk.trans hsl
                  rw [hQ]; exact (Or.inl ⟨_, rfl, hfr, hlen, hsl, h80, (by omega), (by exact gok_no hq16 hq24 (by omega) (by omega)), (by exact Or.inl ⟨by omega, _, hq16, rfl⟩)⟩)
              · refine zz_iconst d_MO_groupAt_137 ?_
                refine zz_iret rfl d_MO_groupAt_138 ?_
                rw [hQ]; exact (Or.inl ⟨_, rfl, hfr, hlen, hsl, h80, (by omega), (by exact gok_no2 hq16 (by omega) (by omega)), (by exact Or.inl ⟨by omega, _, hq16, rfl⟩)⟩)
          · refine zz_iconst d_MO_groupAt_82 ?_
            refine zz_iret rfl d_MO_groupAt_83 ?_
            rw [hQ]; exact (Or.inl ⟨_, rfl, hfr, hlen, hsl, h80, (by omega), (by exact gok_no3 (by omega)), (by exact Or.inr ⟨by omega, rfl⟩)⟩)
        · refine ab_iload d_MO_groupAt_51 rfl ?_
          refine zz_bipush d_MO_groupAt_53 (by decide) ?_
          refine zz_isub d_MO_groupAt_55 ?_
          refine ab_aload_n d_MO_groupAt_56 rfl ?_
          refine ab_getf (fs := mof m_thrown m_taped m_length m_out m_wide m_gathered m_sets m_ranges m_nodes m_at m_flags m_fault m_place m_numbered m_depth m_value m_isNot m_least0 m_most0 m_slot m_work m_got m_rowMany m_charAt m_charWide m_trail m_isMatch m_matchGroups m_allFrom m_allBefore m_founds m_pieces m_writtenMany 2 m_tooMuch) f_MO_115 d_MO_groupAt_57 h80.2.2 rfl ?_
          refine ab_iload_n d_MO_groupAt_60 rfl ?_
          refine zz_iald d_MO_groupAt_61 h114 (by omega) ?_
          refine zz_icmp_gt (tgt := 73) d_MO_groupAt_62 (by decide) (by omega) (by omega) (fun c25 => ?_) (fun c25 => ?_)
          · refine zz_iconst d_MO_groupAt_73 ?_
            refine zz_iret rfl d_MO_groupAt_74 ?_
            rw [hQ]; exact (Or.inl ⟨_, rfl, hfr, hlen, hsl, h80, (by omega), (by exact gok_no3 (by omega)), (by exact Or.inr ⟨by omega, rfl⟩)⟩)
          · refine ab_iload d_MO_groupAt_65 rfl ?_
            refine zz_bipush d_MO_groupAt_67 (by decide) ?_
            refine zz_isub d_MO_groupAt_69 ?_
            refine ab_goto (tgt := 74) d_MO_groupAt_70 (by decide) ?_
            refine zz_iret rfl d_MO_groupAt_74 ?_
            rw [hQ]; exact (Or.inr (Or.inr ⟨_, _, rfl, hfr, hlen, hsl, h80, (by omega), (by omega), (by exact ⟨by omega, Or.inr (Or.inl (by omega))⟩), (by exact Or.inr ⟨by omega, rfl⟩), (by exact Or.inr (Or.inr (Or.inl ⟨by omega, by omega, by omega, by omega, rfl⟩)))⟩))
    · refine zz_bipush d_MO_groupAt_34 (by decide) ?_
      refine zz_iret rfl d_MO_groupAt_36 ?_
      rw [hQ]; exact (Or.inr (Or.inl ⟨_, rfl, hfr, hlen, hsl, h80, (by omega), (by exact ⟨by omega, Or.inl (by omega)⟩), (by exact Or.inr ⟨by omega, rfl⟩), (by exact Or.inr (Or.inl ⟨by omega, by omega, by omega, rfl, rfl⟩))⟩))
  · refine zz_iconst d_MO_groupAt_25 ?_
    refine zz_iret rfl d_MO_groupAt_26 ?_
    rw [hQ]; exact (Or.inl ⟨_, rfl, hfr, hlen, hsl, h80, (by omega), (by exact gok_no3 (by omega)), (by exact Or.inr ⟨by omega, rfl⟩)⟩)
set_option maxRecDepth 100000 in
set_option maxHeartbeats 4000000 in
theorem y_MO_isTemplate_5 {X : ab_X} {d : Nat} {Q : Outcome → ab_G → Prop} {o : Nat → Nat} {G0 : ab_G} {m_thrown : Int} {m_taped : Int} {m_length : Int} {m_out : Int} {m_wide : Int} {m_gathered : Int} {m_sets : Int} {m_ranges : Int} {m_nodes : Int} {m_at : Int} {m_flags : Int} {m_fault : Int} {m_place : Int} {m_numbered : Int} {m_depth : Int} {m_value : Int} {m_isNot : Int} {m_least0 : Int} {m_most0 : Int} {m_slot : Int} {m_work : Int} {m_got : Int} {m_rowMany : Int} {m_charAt : Int} {m_charWide : Int} {m_trail : Int} {m_isMatch : Int} {m_matchGroups : Int} {m_allFrom : Int} {m_allBefore : Int} {m_founds : Int} {m_pieces : Int} {m_writtenMany : Int} {m_tooMuch : Int} {A_tape : Int → Int} {A_nameSize : Int → Int} {A_nameOf : Int → Int} {A_groupsOf : Int → Int} {s : Int} {n : Int} (n18 : ab_n0 = 18) (cg : 0 ≤ s ∧ s ≤ 5 ∧ 0 ≤ n ∧ n ≤ 2000 ∧ 0 ≤ A_groupsOf s ∧ A_groupsOf s ≤ 9) (jtp : rgs A_tape 2000 0 255) (jns : rgs A_nameSize 60 0 12) (jnm : rgs A_nameOf 720 0 255) (hd : 3 ≤ d) : ∀ (mz : Nat) {G : ab_G} {p : Int} {gd : Int} {m_templateWide : Int}, (cc o G 80 280 (ab_ob 12 (mof m_thrown m_taped m_length m_out m_wide m_gathered m_sets m_ranges m_nodes m_at m_flags m_fault m_place m_numbered m_depth m_value m_isNot m_least0 m_most0 m_slot m_work m_got m_rowMany m_charAt m_charWide m_trail m_isMatch m_matchGroups m_allFrom m_allBefore m_founds m_pieces m_writtenMany m_templateWide m_tooMuch))) → (cc o G 84 284 (za 2000 A_tape)) → (cc o G 126 326 (za 720 A_nameOf)) → (cc o G 127 327 (za 60 A_nameSize)) → (cc o G 114 314 (za 6 A_groupsOf)) → (0 ≤ p ∧ p ≤ 4100 ∧ 0 ≤ gd ∧ gd ≤ 1) → (gd = 1 → tvs A_tape A_nameSize A_nameOf A_groupsOf s n p) → (tpG A_tape n (A_groupsOf s) (gNZ A_nameSize s) (gNM A_nameOf s) gd p) → (fx o o [280] G0 G) → (G.length = G0.length) → (ab_slots G = ab_slots G0) → (Int.toNat (5000 - p) < mz) → (∀ (G2 : ab_G) (g2 : Int) (w2 : Int), (cc o G2 80 280 (ab_ob 12 (mof m_thrown m_taped m_length m_out m_wide m_gathered m_sets m_ranges m_nodes m_at m_flags m_fault m_place m_numbered m_depth m_value m_isNot m_least0 m_most0 m_slot m_work m_got m_rowMany m_charAt m_charWide m_trail m_isMatch m_matchGroups m_allFrom m_allBefore m_founds m_pieces m_writtenMany w2 m_tooMuch))) → (0 ≤ g2 ∧ g2 ≤ 1) → (g2 = 1 → ∃ V : Int → Prop, tgd A_tape A_nameSize A_nameOf A_groupsOf s n V) → (tpH A_tape n (A_groupsOf s) (gNZ A_nameSize s) (gNM A_nameOf s) g2) → (fx o o [280] G0 G2) → (G2.length = G0.length) → (ab_slots G2 = ab_slots G0) → ab_W X (ab_pl y_MO_isTemplate b_MO_isTemplate 5 (some (.boolean))) d G2 64 [none, none, none, some (vz g2), none] [] Q) → ab_W X (ab_pl y_MO_isTemplate b_MO_isTemplate 5 (some (.boolean))) d G 5 [some (vR 80), some (vz s), some (vz n), some (vz gd), some (vz p)] [] Q := by
  intro mz
  induction mz with
  | zero => intro G p gd m_templateWide h80 h84 h126 h127 h114 ci jt jg hfr hlen hsl hm hk0; exact absurd hm (Nat.not_lt_zero _)
  | succ mz ih =>
    intro G p gd m_templateWide h80 h84 h126 h127 h114 ci jt jg hfr hlen hsl hm hk0
    refine ab_iload d_MO_isTemplate_5 rfl ?_
    refine ab_iload_n d_MO_isTemplate_7 rfl ?_
    refine zz_icmp_ge (tgt := 64) d_MO_isTemplate_8 (by decide) (by omega) (by omega) (fun c1 => ?_) (fun c1 => ?_)
    · refine ab_less (L' := [none, none, none, some (vz gd), none]) (fun i v h => by rcases i with _ | _ | _ | _ | _ | i <;> first | exact h | (simp at h)) ?_
      exact hk0 _ _ _ h80 (by omega) (by intro h; exact tvs_e (jt h) (by omega)) (by exact tpH_of jg (fun h => by omega)) hfr hlen hsl
    · refine ab_iload_n d_MO_isTemplate_11 rfl ?_
      refine zz_if_eq (tgt := 64) d_MO_isTemplate_12 (by decide) (by omega) (fun c2 => ?_) (fun c2 => ?_)
      · refine ab_less (L' := [none, none, none, some (vz gd), none]) (fun i v h => by rcases i with _ | _ | _ | _ | _ | i <;> first | exact h | (simp at h)) ?_
        exact hk0 _ _ _ h80 (by omega) (by intro h; exact tvs_e (jt h) (by omega)) (by exact tpH_of jg (fun h => by omega)) hfr hlen hsl
      · refine ab_aload_n d_MO_isTemplate_15 rfl ?_
        refine ab_getf (fs := mof m_thrown m_taped m_length m_out m_wide m_gathered m_sets m_ranges m_nodes m_at m_flags m_fault m_place m_numbered m_depth m_value m_isNot m_least0 m_most0 m_slot m_work m_got m_rowMany m_charAt m_charWide m_trail m_isMatch m_matchGroups m_allFrom m_allBefore m_founds m_pieces m_writtenMany m_templateWide m_tooMuch) f_MO_19 d_MO_isTemplate_16 h80.2.2 rfl ?_
        refine ab_iload d_MO_isTemplate_19 rfl ?_
        refine zz_iald d_MO_isTemplate_21 h84 (by omega) ?_
        have hq3 := jtp p (by omega) (by omega)
        refine zz_bipush d_MO_isTemplate_22 (by decide) ?_
        refine zz_icmp_eq (tgt := 30) d_MO_isTemplate_24 (by decide) (by omega) (by decide) (fun c4 => ?_) (fun c4 => ?_)
        · refine ab_aload_n d_MO_isTemplate_30 rfl ?_
          refine ab_iload_n d_MO_isTemplate_31 rfl ?_
          refine ab_iload d_MO_isTemplate_32 rfl ?_
          refine ab_iload_n d_MO_isTemplate_34 rfl ?_
          refine ab_callV (d' := d - 1) (as := [vz s, vz p, vz n]) (st := []) (r := _) (z_MO_groupAt (o := o) (m_thrown := m_thrown) (m_taped := m_taped) (m_length := m_length) (m_out := m_out) (m_wide := m_wide) (m_gathered := m_gathered) (m_sets := m_sets) (m_ranges := m_ranges) (m_nodes := m_nodes) (m_at := m_at) (m_flags := m_flags) (m_fault := m_fault) (m_place := m_place) (m_numbered := m_numbered) (m_depth := m_depth) (m_value := m_value) (m_isNot := m_isNot) (m_least0 := m_least0) (m_most0 := m_most0) (m_slot := m_slot) (m_work := m_work) (m_got := m_got) (m_rowMany := m_rowMany) (m_charAt := m_charAt) (m_charWide := m_charWide) (m_trail := m_trail) (m_isMatch := m_isMatch) (m_matchGroups := m_matchGroups) (m_allFrom := m_allFrom) (m_allBefore := m_allBefore) (m_founds := m_founds) (m_pieces := m_pieces) (m_writtenMany := m_writtenMany) (m_templateWide := m_templateWide) (m_tooMuch := m_tooMuch) (A_tape := A_tape) (A_nameSize := A_nameSize) (A_nameOf := A_nameOf) (A_groupsOf := A_groupsOf) (s := s) (p := p) (n := n) h80 h84 h126 h127 h114 (by omega) (by omega) jtp jns jnm (by omega) (by omega)) (fun oc G2 h => by rcases h with ⟨_, h, _⟩ | ⟨_, h, _⟩ | ⟨_, _, h, _⟩ <;> exact ⟨_, h⟩) (by omega) m_MO_groupAt ml_MO_606 im_MO_groupAt se_MO_groupAt c_MO h80.2.2 (Nat.le_of_ble_eq_true rfl) d_MO_isTemplate_35 rfl ?_
          intro v G5 hq
          rcases hq with ⟨w26, hv, hfk, hlk, hsk, hN80, hq7, hq8, hq9⟩ | ⟨w210, hv, hfk, hlk, hsk, hN80, hq11, hq12, hq13, hq14⟩ | ⟨g15, w216, hv, hfk, hlk, hsk, hN80, hq17, hq18, hq19, hq20, hq21⟩
          · cases hv
            have h84 := hfk.get h84 (by decide)
            have h126 := hfk.get h126 (by decide)
            have h127 := hfk.get h127 (by decide)
            have h114 := hfk.get h114 (by decide)
            have hfr := hfr.tr hfk (by decide)
            have hlen := hlk.trans hlen
            have hsl := hsk.trans hsl
            have h80 := hN80
            change ab_W _ _ _ G5 38 [some (vR 80), some (vz s), some (vz n), some (vz gd), some (vz p)] [vz (-1)] _
            refine zz_if_lt (tgt := 45) d_MO_isTemplate_38 (by decide) (by decide) (fun c22 => ?_) (fun c22 => absurd c22 (by decide))
            refine zz_iconst d_MO_isTemplate_45 ?_
            refine ab_istore_n d_MO_isTemplate_46 (Nat.le_of_ble_eq_true rfl) (Nat.le_of_ble_eq_true rfl) rfl ?_
            change ab_W _ _ _ G5 47 [some (vR 80), some (vz s), some (vz n), some (vz 0), some (vz p)] [] _
            refine ab_iload d_MO_isTemplate_47 rfl ?_
            refine ab_aload_n d_MO_isTemplate_49 rfl ?_
            refine ab_getf (fs := mof m_thrown m_taped m_length m_out m_wide m_gathered m_sets m_ranges m_nodes m_at m_flags m_fault m_place m_numbered m_depth m_value m_isNot m_least0 m_most0 m_slot m_work m_got m_rowMany m_charAt m_charWide m_trail m_isMatch m_matchGroups m_allFrom m_allBefore m_founds m_pieces m_writtenMany w26 m_tooMuch) f_MO_603 d_MO_isTemplate_50 h80.2.2 rfl ?_
            refine zz_iconst d_MO_isTemplate_53 ?_
            refine zz_isub d_MO_isTemplate_54 ?_
            refine zz_iadd d_MO_isTemplate_55 ?_
            refine ab_istore d_MO_isTemplate_56 (Nat.le_of_ble_eq_true rfl) (Nat.le_of_ble_eq_true rfl) rfl ?_
            change ab_W _ _ _ G5 58 [some (vR 80), some (vz s), some (vz n), some (vz 0), some (vz (p + (w26 - 1)))] [] _
            refine zz_iinc d_MO_isTemplate_58 rfl (Nat.le_of_ble_eq_true rfl) (Nat.le_of_ble_eq_true rfl) rfl ?_
            change ab_W _ _ _ G5 61 [some (vR 80), some (vz s), some (vz n), some (vz 0), some (vz ((p + (w26 - 1)) + 1))] [] _
            refine ab_goto (tgt := 5) d_MO_isTemplate_61 (by decide) ?_
            exact ih (p := ((p + (w26 - 1)) + 1)) (gd := 0) (m_templateWide := w26) h80 h84 h126 h127 h114 (by omega) (fun h => absurd h (by decide)) (tpG_n jg (by omega) (by omega) (fun it w h => absurd (tmI_gok h (by omega)) hq8)) hfr hlen hsl (by omega) hk0
          · cases hv
            have h84 := hfk.get h84 (by decide)
            have h126 := hfk.get h126 (by decide)
            have h127 := hfk.get h127 (by decide)
            have h114 := hfk.get h114 (by decide)
            have hfr := hfr.tr hfk (by decide)
            have hlen := hlk.trans hlen
            have hsl := hsk.trans hsl
            have h80 := hN80
            change ab_W _ _ _ G5 38 [some (vR 80), some (vz s), some (vz n), some (vz gd), some (vz p)] [vz 100] _
            refine zz_if_lt (tgt := 45) d_MO_isTemplate_38 (by decide) (by decide) (fun c23 => absurd c23 (by decide)) (fun c23 => ?_)
            refine zz_iconst d_MO_isTemplate_41 ?_
            refine ab_goto (tgt := 46) d_MO_isTemplate_42 (by decide) ?_
            refine ab_istore_n d_MO_isTemplate_46 (Nat.le_of_ble_eq_true rfl) (Nat.le_of_ble_eq_true rfl) rfl ?_
            change ab_W _ _ _ G5 47 [some (vR 80), some (vz s), some (vz n), some (vz 1), some (vz p)] [] _
            refine ab_iload d_MO_isTemplate_47 rfl ?_
            refine ab_aload_n d_MO_isTemplate_49 rfl ?_
            refine ab_getf (fs := mof m_thrown m_taped m_length m_out m_wide m_gathered m_sets m_ranges m_nodes m_at m_flags m_fault m_place m_numbered m_depth m_value m_isNot m_least0 m_most0 m_slot m_work m_got m_rowMany m_charAt m_charWide m_trail m_isMatch m_matchGroups m_allFrom m_allBefore m_founds m_pieces m_writtenMany w210 m_tooMuch) f_MO_603 d_MO_isTemplate_50 h80.2.2 rfl ?_
            refine zz_iconst d_MO_isTemplate_53 ?_
            refine zz_isub d_MO_isTemplate_54 ?_
            refine zz_iadd d_MO_isTemplate_55 ?_
            refine ab_istore d_MO_isTemplate_56 (Nat.le_of_ble_eq_true rfl) (Nat.le_of_ble_eq_true rfl) rfl ?_
            change ab_W _ _ _ G5 58 [some (vR 80), some (vz s), some (vz n), some (vz 1), some (vz (p + (w210 - 1)))] [] _
            refine zz_iinc d_MO_isTemplate_58 rfl (Nat.le_of_ble_eq_true rfl) (Nat.le_of_ble_eq_true rfl) rfl ?_
            change ab_W _ _ _ G5 61 [some (vR 80), some (vz s), some (vz n), some (vz 1), some (vz ((p + (w210 - 1)) + 1))] [] _
            refine ab_goto (tgt := 5) d_MO_isTemplate_61 (by decide) ?_
            exact ih (p := ((p + (w210 - 1)) + 1)) (gd := 1) (m_templateWide := w210) h80 h84 h126 h127 h114 (by omega) (fun _ => by rw [show ((p + (w210 - 1)) + 1) = p + w210 by omega]; exact tvs_w (jt (by omega)) (by omega) hq12 hq13 (by omega)) (tpG_s jg (by omega) (by omega) hq14 (by omega)) hfr hlen hsl (by omega) hk0
          · cases hv
            have h84 := hfk.get h84 (by decide)
            have h126 := hfk.get h126 (by decide)
            have h127 := hfk.get h127 (by decide)
            have h114 := hfk.get h114 (by decide)
            have hfr := hfr.tr hfk (by decide)
            have hlen := hlk.trans hlen
            have hsl := hsk.trans hsl
            have h80 := hN80
            change ab_W _ _ _ G5 38 [some (vR 80), some (vz s), some (vz n), some (vz gd), some (vz p)] [vz g15] _
            refine zz_if_lt (tgt := 45) d_MO_isTemplate_38 (by decide) (by omega) (fun c24 => absurd c24 (by omega)) (fun c24 => ?_)
            refine zz_iconst d_MO_isTemplate_41 ?_
            refine ab_goto (tgt := 46) d_MO_isTemplate_42 (by decide) ?_
            refine ab_istore_n d_MO_isTemplate_46 (Nat.le_of_ble_eq_true rfl) (Nat.le_of_ble_eq_true rfl) rfl ?_
            change ab_W _ _ _ G5 47 [some (vR 80), some (vz s), some (vz n), some (vz 1), some (vz p)] [] _
            refine ab_iload d_MO_isTemplate_47 rfl ?_
            refine ab_aload_n d_MO_isTemplate_49 rfl ?_
            refine ab_getf (fs := mof m_thrown m_taped m_length m_out m_wide m_gathered m_sets m_ranges m_nodes m_at m_flags m_fault m_place m_numbered m_depth m_value m_isNot m_least0 m_most0 m_slot m_work m_got m_rowMany m_charAt m_charWide m_trail m_isMatch m_matchGroups m_allFrom m_allBefore m_founds m_pieces m_writtenMany w216 m_tooMuch) f_MO_603 d_MO_isTemplate_50 h80.2.2 rfl ?_
            refine zz_iconst d_MO_isTemplate_53 ?_
            refine zz_isub d_MO_isTemplate_54 ?_
            refine zz_iadd d_MO_isTemplate_55 ?_
            refine ab_istore d_MO_isTemplate_56 (Nat.le_of_ble_eq_true rfl) (Nat.le_of_ble_eq_true rfl) rfl ?_
            change ab_W _ _ _ G5 58 [some (vR 80), some (vz s), some (vz n), some (vz 1), some (vz (p + (w216 - 1)))] [] _
            refine zz_iinc d_MO_isTemplate_58 rfl (Nat.le_of_ble_eq_true rfl) (Nat.le_of_ble_eq_true rfl) rfl ?_
            change ab_W _ _ _ G5 61 [some (vR 80), some (vz s), some (vz n), some (vz 1), some (vz ((p + (w216 - 1)) + 1))] [] _
            refine ab_goto (tgt := 5) d_MO_isTemplate_61 (by decide) ?_
            exact ih (p := ((p + (w216 - 1)) + 1)) (gd := 1) (m_templateWide := w216) h80 h84 h126 h127 h114 (by omega) (fun _ => by rw [show ((p + (w216 - 1)) + 1) = p + w216 by omega]; exact tvs_w (jt (by omega)) (by omega) hq19 hq20 (by omega)) (tpG_s jg (by omega) (by omega) hq21 (by omega)) hfr hlen hsl (by omega) hk0
        · refine ab_goto (tgt := 58) d_MO_isTemplate_27 (by decide) ?_
          refine zz_iinc d_MO_isTemplate_58 rfl (Nat.le_of_ble_eq_true rfl) (Nat.le_of_ble_eq_true rfl) rfl ?_
          change ab_W _ _ _ G 61 [some (vR 80), some (vz s), some (vz n), some (vz gd), some (vz (p + 1))] [] _
          refine ab_goto (tgt := 5) d_MO_isTemplate_61 (by decide) ?_
          exact ih (p := (p + 1)) (gd := gd) (m_templateWide := m_templateWide) h80 h84 h126 h127 h114 (by omega) (fun _ => tvs_1 (jt (by omega)) (by omega)) (by rw [show gd = 1 by omega]; exact tpG_s jg (by omega) (by omega) (tmI_1 (by omega)) (by omega)) hfr hlen hsl (by omega) hk0
set_option maxRecDepth 100000 in
set_option maxHeartbeats 4000000 in
theorem z_MO_isTemplate {X : ab_X} {d : Nat} {o : Nat → Nat} {G : ab_G} {m_thrown : Int} {m_taped : Int} {m_length : Int} {m_out : Int} {m_wide : Int} {m_gathered : Int} {m_sets : Int} {m_ranges : Int} {m_nodes : Int} {m_at : Int} {m_flags : Int} {m_fault : Int} {m_place : Int} {m_numbered : Int} {m_depth : Int} {m_value : Int} {m_isNot : Int} {m_least0 : Int} {m_most0 : Int} {m_slot : Int} {m_work : Int} {m_got : Int} {m_rowMany : Int} {m_charAt : Int} {m_charWide : Int} {m_trail : Int} {m_isMatch : Int} {m_matchGroups : Int} {m_allFrom : Int} {m_allBefore : Int} {m_founds : Int} {m_pieces : Int} {m_writtenMany : Int} {m_templateWide : Int} {m_tooMuch : Int} {A_tape : Int → Int} {A_nameSize : Int → Int} {A_nameOf : Int → Int} {A_groupsOf : Int → Int} {s : Int} {n : Int} (h80 : cc o G 80 280 (ab_ob 12 (mof m_thrown m_taped m_length m_out m_wide m_gathered m_sets m_ranges m_nodes m_at m_flags m_fault m_place m_numbered m_depth m_value m_isNot m_least0 m_most0 m_slot m_work m_got m_rowMany m_charAt m_charWide m_trail m_isMatch m_matchGroups m_allFrom m_allBefore m_founds m_pieces m_writtenMany m_templateWide m_tooMuch))) (h84 : cc o G 84 284 (za 2000 A_tape)) (h126 : cc o G 126 326 (za 720 A_nameOf)) (h127 : cc o G 127 327 (za 60 A_nameSize)) (h114 : cc o G 114 314 (za 6 A_groupsOf)) (n18 : ab_n0 = 18) (cg : 0 ≤ s ∧ s ≤ 5 ∧ 0 ≤ n ∧ n ≤ 2000 ∧ 0 ≤ A_groupsOf s ∧ A_groupsOf s ≤ 9) (jtp : rgs A_tape 2000 0 255) (jns : rgs A_nameSize 60 0 12) (jnm : rgs A_nameOf 720 0 255) (hd : 4 ≤ d) : ab_F X d y_MO_isTemplate (.code y_MO_isTemplate b_MO_isTemplate 5 (some (.boolean))) [vR 80, vz s, vz n] G (fun oc G2 => ∃ g2 : Int, ∃ w2 : Int, oc = .returned (some (vz g2)) ∧ fx o o [280] G G2 ∧ G2.length = G.length ∧ ab_slots G2 = ab_slots G ∧ cc o G2 80 280 (ab_ob 12 (mof m_thrown m_taped m_length m_out m_wide m_gathered m_sets m_ranges m_nodes m_at m_flags m_fault m_place m_numbered m_depth m_value m_isNot m_least0 m_most0 m_slot m_work m_got m_rowMany m_charAt m_charWide m_trail m_isMatch m_matchGroups m_allFrom m_allBefore m_founds m_pieces m_writtenMany w2 m_tooMuch)) ∧ (0 ≤ g2 ∧ g2 ≤ 1) ∧ (g2 = 1 → ∃ V : Int → Prop, tgd A_tape A_nameSize A_nameOf A_groupsOf s n V) ∧ (tpH A_tape n (A_groupsOf s) (gNZ A_nameSize s) (gNM A_nameOf s) g2)) := by
  refine ab_F_of (by decide +kernel) (Nat.le_of_ble_eq_true rfl) ?_
  obtain ⟨Q, hQ⟩ : ∃ z : Outcome → ab_G → Prop, z = (fun oc G2 => ∃ g2 : Int, ∃ w2 : Int, oc = .returned (some (vz g2)) ∧ fx o o [280] G G2 ∧ G2.length = G.length ∧ ab_slots G2 = ab_slots G ∧ cc o G2 80 280 (ab_ob 12 (mof m_thrown m_taped m_length m_out m_wide m_gathered m_sets m_ranges m_nodes m_at m_flags m_fault m_place m_numbered m_depth m_value m_isNot m_least0 m_most0 m_slot m_work m_got m_rowMany m_charAt m_charWide m_trail m_isMatch m_matchGroups m_allFrom m_allBefore m_founds m_pieces m_writtenMany w2 m_tooMuch)) ∧ (0 ≤ g2 ∧ g2 ≤ 1) ∧ (g2 = 1 → ∃ V : Int → Prop, tgd A_tape A_nameSize A_nameOf A_groupsOf s n V) ∧ (tpH A_tape n (A_groupsOf s) (gNZ A_nameSize s) (gNM A_nameOf s) g2)) := ⟨_, rfl⟩
  rw [← hQ]
  change ab_W X (ab_pl y_MO_isTemplate b_MO_isTemplate 5 (some (.boolean))) d G 0 [some (vR 80), some (vz s), some (vz n), none, none] [] Q
  have hfr : fx o o [280] G G := fx.rf
  have hlen : G.length = G.length := rfl
  have hsl : ab_slots G = ab_slots G := rfl
  refine zz_iconst d_MO_isTemplate_0 ?_
  refine ab_istore_n d_MO_isTemplate_1 (Nat.le_of_ble_eq_true rfl) (Nat.le_of_ble_eq_true rfl) rfl ?_
  change ab_W _ _ _ G 2 [some (vR 80), some (vz s), some (vz n), some (vz 1), none] [] _
  refine zz_iconst d_MO_isTemplate_2 ?_
  refine ab_istore d_MO_isTemplate_3 (Nat.le_of_ble_eq_true rfl) (Nat.le_of_ble_eq_true rfl) rfl ?_
  change ab_W _ _ _ G 5 [some (vR 80), some (vz s), some (vz n), some (vz 1), some (vz 0)] [] _
  refine y_MO_isTemplate_5 (m_thrown := m_thrown) (m_taped := m_taped) (m_length := m_length) (m_out := m_out) (m_wide := m_wide) (m_gathered := m_gathered) (m_sets := m_sets) (m_ranges := m_ranges) (m_nodes := m_nodes) (m_at := m_at) (m_flags := m_flags) (m_fault := m_fault) (m_place := m_place) (m_numbered := m_numbered) (m_depth := m_depth) (m_value := m_value) (m_isNot := m_isNot) (m_least0 := m_least0) (m_most0 := m_most0) (m_slot := m_slot) (m_work := m_work) (m_got := m_got) (m_rowMany := m_rowMany) (m_charAt := m_charAt) (m_charWide := m_charWide) (m_trail := m_trail) (m_isMatch := m_isMatch) (m_matchGroups := m_matchGroups) (m_allFrom := m_allFrom) (m_allBefore := m_allBefore) (m_founds := m_founds) (m_pieces := m_pieces) (m_writtenMany := m_writtenMany) (m_tooMuch := m_tooMuch) (A_tape := A_tape) (A_nameSize := A_nameSize) (A_nameOf := A_nameOf) (A_groupsOf := A_groupsOf) (s := s) (n := n) (G0 := G) (p := 0) (gd := 1) (m_templateWide := m_templateWide) (by omega) (by omega) jtp jns jnm (by omega) (Int.toNat (5000 - 0) + 1) h80 h84 h126 h127 h114 (by omega) (fun _ => tvs_0) tpG_0 fx.rf rfl rfl (by omega) (fun G1 g22 w23 hN80 hq4 hq5 hq6 hfk hlk hsk => ?_)
  · have h84 := hfk.get h84 (by decide)
    have h126 := hfk.get h126 (by decide)
    have h127 := hfk.get h127 (by decide)
    have h114 := hfk.get h114 (by decide)
    have hfr := hfr.tr hfk (by decide)
    have hlen := hlk.trans hlen
    have hsl := hsk.trans hsl
    have h80 := hN80
    change ab_W _ _ _ G1 64 [none, none, none, some (vz g22), none] [] _
    refine ab_iload_n d_MO_isTemplate_64 rfl ?_
    refine zz_bret rfl (by omega) d_MO_isTemplate_65 ?_
    rw [hQ]; exact ⟨_, _, rfl, hfr, hlen, hsl, h80, (by omega), (by exact hq5), (by exact hq6)⟩
set_option maxRecDepth 100000 in
set_option maxHeartbeats 4000000 in
theorem z_MO_write {X : ab_X} {d : Nat} {o : Nat → Nat} {G : ab_G} {m_thrown : Int} {m_taped : Int} {m_length : Int} {m_out : Int} {m_wide : Int} {m_gathered : Int} {m_sets : Int} {m_ranges : Int} {m_nodes : Int} {m_at : Int} {m_flags : Int} {m_fault : Int} {m_place : Int} {m_numbered : Int} {m_depth : Int} {m_value : Int} {m_isNot : Int} {m_least0 : Int} {m_most0 : Int} {m_slot : Int} {m_work : Int} {m_got : Int} {m_rowMany : Int} {m_charAt : Int} {m_charWide : Int} {m_trail : Int} {m_isMatch : Int} {m_matchGroups : Int} {m_allFrom : Int} {m_allBefore : Int} {m_founds : Int} {m_pieces : Int} {m_writtenMany : Int} {m_templateWide : Int} {m_tooMuch : Int} {WR : Int → Int} {v : Int} {O9 : List Int} (h80 : cc o G 80 280 (ab_ob 12 (mof m_thrown m_taped m_length m_out m_wide m_gathered m_sets m_ranges m_nodes m_at m_flags m_fault m_place m_numbered m_depth m_value m_isNot m_least0 m_most0 m_slot m_work m_got m_rowMany m_charAt m_charWide m_trail m_isMatch m_matchGroups m_allFrom m_allBefore m_founds m_pieces m_writtenMany m_templateWide m_tooMuch))) (h147 : cc o G 147 347 (za 6000 WR)) (n18 : ab_n0 = 18) (cwm : 0 ≤ m_writtenMany ∧ m_writtenMany ≤ 6000 ∧ 0 ≤ m_tooMuch ∧ m_tooMuch ≤ 1) (ct0 : m_tooMuch = 0) (jw : wmR WR m_writtenMany m_tooMuch O9) : ab_F X d y_MO_write (.code y_MO_write b_MO_write 2 none) [vR 80, vz v] G (fun oc G2 => ∃ k2 : Int, ∃ t2 : Int, ∃ WR2 : Int → Int, oc = .returned none ∧ fx o o [280, 347] G G2 ∧ G2.length = G.length ∧ ab_slots G2 = ab_slots G ∧ cc o G2 80 280 (ab_ob 12 (mof m_thrown m_taped m_length m_out m_wide m_gathered m_sets m_ranges m_nodes m_at m_flags m_fault m_place m_numbered m_depth m_value m_isNot m_least0 m_most0 m_slot m_work m_got m_rowMany m_charAt m_charWide m_trail m_isMatch m_matchGroups m_allFrom m_allBefore m_founds m_pieces k2 m_templateWide t2)) ∧ cc o G2 147 347 (za 6000 WR2) ∧ (0 ≤ k2 ∧ k2 ≤ 6000 ∧ 0 ≤ t2 ∧ t2 ≤ 1) ∧ (wmR WR2 k2 t2 (O9 ++ [v]))) := by
  refine ab_F_of (by decide +kernel) (Nat.le_of_ble_eq_true rfl) ?_
  obtain ⟨Q, hQ⟩ : ∃ z : Outcome → ab_G → Prop, z = (fun oc G2 => ∃ k2 : Int, ∃ t2 : Int, ∃ WR2 : Int → Int, oc = .returned none ∧ fx o o [280, 347] G G2 ∧ G2.length = G.length ∧ ab_slots G2 = ab_slots G ∧ cc o G2 80 280 (ab_ob 12 (mof m_thrown m_taped m_length m_out m_wide m_gathered m_sets m_ranges m_nodes m_at m_flags m_fault m_place m_numbered m_depth m_value m_isNot m_least0 m_most0 m_slot m_work m_got m_rowMany m_charAt m_charWide m_trail m_isMatch m_matchGroups m_allFrom m_allBefore m_founds m_pieces k2 m_templateWide t2)) ∧ cc o G2 147 347 (za 6000 WR2) ∧ (0 ≤ k2 ∧ k2 ≤ 6000 ∧ 0 ≤ t2 ∧ t2 ≤ 1) ∧ (wmR WR2 k2 t2 (O9 ++ [v]))) := ⟨_, rfl⟩
  rw [← hQ]
  change ab_W X (ab_pl y_MO_write b_MO_write 2 none) d G 0 [some (vR 80), some (vz v)] [] Q
  have hfr : fx o o [280, 347] G G := fx.rf
  have hlen : G.length = G.length := rfl
  have hsl : ab_slots G = ab_slots G := rfl
  refine ab_aload_n d_MO_write_0 rfl ?_
  refine ab_getf (fs := mof m_thrown m_taped m_length m_out m_wide m_gathered m_sets m_ranges m_nodes m_at m_flags m_fault m_place m_numbered m_depth m_value m_isNot m_least0 m_most0 m_slot m_work m_got m_rowMany m_charAt m_charWide m_trail m_isMatch m_matchGroups m_allFrom m_allBefore m_founds m_pieces m_writtenMany m_templateWide m_tooMuch) f_MO_594 d_MO_write_1 h80.2.2 rfl ?_
  refine zz_sipush d_MO_write_4 (by decide) ?_
  refine zz_icmp_ne (tgt := 16) d_MO_write_7 (by decide) (by omega) (by decide) (fun c1 => ?_) (fun c1 => ?_)
  · refine ab_aload_n d_MO_write_16 rfl ?_
    refine ab_getf (fs := mof m_thrown m_taped m_length m_out m_wide m_gathered m_sets m_ranges m_nodes m_at m_flags m_fault m_place m_numbered m_depth m_value m_isNot m_least0 m_most0 m_slot m_work m_got m_rowMany m_charAt m_charWide m_trail m_isMatch m_matchGroups m_allFrom m_allBefore m_founds m_pieces m_writtenMany m_templateWide m_tooMuch) f_MO_217 d_MO_write_17 h80.2.2 rfl ?_
    refine ab_aload_n d_MO_write_20 rfl ?_
    refine ab_getf (fs := mof m_thrown m_taped m_length m_out m_wide m_gathered m_sets m_ranges m_nodes m_at m_flags m_fault m_place m_numbered m_depth m_value m_isNot m_least0 m_most0 m_slot m_work m_got m_rowMany m_charAt m_charWide m_trail m_isMatch m_matchGroups m_allFrom m_allBefore m_founds m_pieces m_writtenMany m_templateWide m_tooMuch) f_MO_594 d_MO_write_21 h80.2.2 rfl ?_
    refine ab_iload_n d_MO_write_24 rfl ?_
    refine zz_iast d_MO_write_25 h147 (by omega) (h147.2.1 (by decide)) ?_
    obtain ⟨G2, eG2⟩ : ∃ z : ab_G, z = List.set G 147 (za 6000 (zu WR m_writtenMany v)) := ⟨_, rfl⟩
    have h80 := h80.keep h147 eG2 (by decide)
    have hlen := (z_len eG2).trans hlen
    have hsl := (z_sl h147 eG2 rfl).trans hsl
    have hfr := hfr.wr h147 eG2 (by decide)
    have h147 := h147.kept eG2
    change ab_W _ _ _ (List.set G 147 (za 6000 (zu WR m_writtenMany v))) 26 [some (vR 80), some (vz v)] [] _
    rw [← eG2]
    refine ab_aload_n d_MO_write_26 rfl ?_
    refine ab_dup d_MO_write_27 rfl ?_
    refine ab_getf (fs := mof m_thrown m_taped m_length m_out m_wide m_gathered m_sets m_ranges m_nodes m_at m_flags m_fault m_place m_numbered m_depth m_value m_isNot m_least0 m_most0 m_slot m_work m_got m_rowMany m_charAt m_charWide m_trail m_isMatch m_matchGroups m_allFrom m_allBefore m_founds m_pieces m_writtenMany m_templateWide m_tooMuch) f_MO_594 d_MO_write_28 h80.2.2 rfl ?_
    refine zz_iconst d_MO_write_31 ?_
    refine zz_iadd d_MO_write_32 ?_
    refine ab_putf (fs := mof m_thrown m_taped m_length m_out m_wide m_gathered m_sets m_ranges m_nodes m_at m_flags m_fault m_place m_numbered m_depth m_value m_isNot m_least0 m_most0 m_slot m_work m_got m_rowMany m_charAt m_charWide m_trail m_isMatch m_matchGroups m_allFrom m_allBefore m_founds m_pieces m_writtenMany m_templateWide m_tooMuch) f_MO_594 (Or.inl rfl) d_MO_write_33 h80.2.2 (Nat.le_of_ble_eq_true rfl) (fun _ => ⟨rfl, rfl⟩) (h80.2.1 (by decide)) ?_
    obtain ⟨G3, eG3⟩ : ∃ z : ab_G, z = List.set G2 80 (ab_ob 12 (mof m_thrown m_taped m_length m_out m_wide m_gathered m_sets m_ranges m_nodes m_at m_flags m_fault m_place m_numbered m_depth m_value m_isNot m_least0 m_most0 m_slot m_work m_got m_rowMany m_charAt m_charWide m_trail m_isMatch m_matchGroups m_allFrom m_allBefore m_founds m_pieces (m_writtenMany + 1) m_templateWide m_tooMuch)) := ⟨_, rfl⟩
    have h147 := h147.keep h80 eG3 (by decide)
    have hlen := (z_len eG3).trans hlen
    have hsl := (z_sl h80 eG3 rfl).trans hsl
    have hfr := hfr.wr h80 eG3 (by decide)
    have h80 := h80.kept eG3
    change ab_W _ _ _ (List.set G2 80 (ab_ob 12 (mof m_thrown m_taped m_length m_out m_wide m_gathered m_sets m_ranges m_nodes m_at m_flags m_fault m_place m_numbered m_depth m_value m_isNot m_least0 m_most0 m_slot m_work m_got m_rowMany m_charAt m_charWide m_trail m_isMatch m_matchGroups m_allFrom m_allBefore m_founds m_pieces (m_writtenMany + 1) m_templateWide m_tooMuch))) 36 [some (vR 80), some (vz v)] [] _
    rw [← eG3]
    refine ab_vret rfl d_MO_write_36 ?_
    rw [hQ]; exact ⟨_, _, _, rfl, hfr, hlen, hsl, h80, h147, (by omega), (by have t_ := jw; rw [ct0] at t_ ⊢; exact t_.add (by omega))⟩
  · refine ab_aload_n d_MO_write_10 rfl ?_
    refine zz_iconst d_MO_write_11 ?_
    refine ab_putf (fs := mof m_thrown m_taped m_length m_out m_wide m_gathered m_sets m_ranges m_nodes m_at m_flags m_fault m_place m_numbered m_depth m_value m_isNot m_least0 m_most0 m_slot m_work m_got m_rowMany m_charAt m_charWide m_trail m_isMatch m_matchGroups m_allFrom m_allBefore m_founds m_pieces m_writtenMany m_templateWide m_tooMuch) f_MO_597 (Or.inl rfl) d_MO_write_12 h80.2.2 (Nat.le_of_ble_eq_true rfl) (ab_fbz (by decide)) (h80.2.1 (by decide)) ?_
    obtain ⟨G4, eG4⟩ : ∃ z : ab_G, z = List.set G 80 (ab_ob 12 (mof m_thrown m_taped m_length m_out m_wide m_gathered m_sets m_ranges m_nodes m_at m_flags m_fault m_place m_numbered m_depth m_value m_isNot m_least0 m_most0 m_slot m_work m_got m_rowMany m_charAt m_charWide m_trail m_isMatch m_matchGroups m_allFrom m_allBefore m_founds m_pieces m_writtenMany m_templateWide 1)) := ⟨_, rfl⟩
    have h147 := h147.keep h80 eG4 (by decide)
    have hlen := (z_len eG4).trans hlen
    have hsl := (z_sl h80 eG4 rfl).trans hsl
    have hfr := hfr.wr h80 eG4 (by decide)
    have h80 := h80.kept eG4
    change ab_W _ _ _ (List.set G 80 (ab_ob 12 (mof m_thrown m_taped m_length m_out m_wide m_gathered m_sets m_ranges m_nodes m_at m_flags m_fault m_place m_numbered m_depth m_value m_isNot m_least0 m_most0 m_slot m_work m_got m_rowMany m_charAt m_charWide m_trail m_isMatch m_matchGroups m_allFrom m_allBefore m_founds m_pieces m_writtenMany m_templateWide 1))) 15 [some (vR 80), some (vz v)] [] _
    rw [← eG4]
    refine ab_vret rfl d_MO_write_15 ?_
    rw [hQ]; exact ⟨_, _, _, rfl, hfr, hlen, hsl, h80, h147, (by omega), (by have t_ := jw; rw [ct0] at t_; exact t_.full (by omega))⟩
set_option maxRecDepth 100000 in
set_option maxHeartbeats 4000000 in
theorem y_MO_writeSubject_2 {X : ab_X} {d : Nat} {Q : Outcome → ab_G → Prop} {o : Nat → Nat} {G0 : ab_G} {m_thrown : Int} {m_taped : Int} {m_length : Int} {m_out : Int} {m_wide : Int} {m_gathered : Int} {m_sets : Int} {m_ranges : Int} {m_nodes : Int} {m_at : Int} {m_flags : Int} {m_fault : Int} {m_place : Int} {m_numbered : Int} {m_depth : Int} {m_value : Int} {m_isNot : Int} {m_least0 : Int} {m_most0 : Int} {m_slot : Int} {m_work : Int} {m_got : Int} {m_rowMany : Int} {m_charAt : Int} {m_charWide : Int} {m_trail : Int} {m_isMatch : Int} {m_matchGroups : Int} {m_allFrom : Int} {m_allBefore : Int} {m_founds : Int} {m_pieces : Int} {m_templateWide : Int} {A_subject : Int → Int} {a : Int} {b : Int} {O9 : List Int} (n18 : ab_n0 = 18) (cb : -1 ≤ b ∧ b ≤ 2000) (hd : 1 ≤ d) : ∀ (mz : Nat) {G : ab_G} {i_ : Int} {m_writtenMany : Int} {m_tooMuch : Int} {WR : Int → Int}, (cc o G 80 280 (ab_ob 12 (mof m_thrown m_taped m_length m_out m_wide m_gathered m_sets m_ranges m_nodes m_at m_flags m_fault m_place m_numbered m_depth m_value m_isNot m_least0 m_most0 m_slot m_work m_got m_rowMany m_charAt m_charWide m_trail m_isMatch m_matchGroups m_allFrom m_allBefore m_founds m_pieces m_writtenMany m_templateWide m_tooMuch))) → (cc o G 147 347 (za 6000 WR)) → (cc o G 85 285 (za 2000 A_subject)) → (0 ≤ i_ ∧ i_ ≤ 2000) → (0 ≤ m_writtenMany ∧ m_writtenMany ≤ 6000 ∧ 0 ≤ m_tooMuch ∧ m_tooMuch ≤ 1) → (swI A_subject O9 a b i_ WR m_writtenMany m_tooMuch) → (fx o o [280, 347] G0 G) → (G.length = G0.length) → (ab_slots G = ab_slots G0) → (Int.toNat (2000 - i_) < mz) → (∀ (G2 : ab_G) (k2 : Int) (t2 : Int) (WR2 : Int → Int), (cc o G2 80 280 (ab_ob 12 (mof m_thrown m_taped m_length m_out m_wide m_gathered m_sets m_ranges m_nodes m_at m_flags m_fault m_place m_numbered m_depth m_value m_isNot m_least0 m_most0 m_slot m_work m_got m_rowMany m_charAt m_charWide m_trail m_isMatch m_matchGroups m_allFrom m_allBefore m_founds m_pieces k2 m_templateWide t2))) → (cc o G2 147 347 (za 6000 WR2)) → (0 ≤ k2 ∧ k2 ≤ 6000 ∧ 0 ≤ t2 ∧ t2 ≤ 1) → (wmR WR2 k2 t2 (O9 ++ sbR A_subject a b)) → (fx o o [280, 347] G0 G2) → (G2.length = G0.length) → (ab_slots G2 = ab_slots G0) → ab_W X (ab_pl y_MO_writeSubject b_MO_writeSubject 4 none) d G2 30 [none, none, none, none] [] Q) → ab_W X (ab_pl y_MO_writeSubject b_MO_writeSubject 4 none) d G 2 [some (vR 80), none, some (vz b), some (vz i_)] [] Q := by
  intro mz
  induction mz with
  | zero => intro G i_ m_writtenMany m_tooMuch WR h80 h147 h85 ci cwm jw hfr hlen hsl hm hk0; exact absurd hm (Nat.not_lt_zero _)
  | succ mz ih =>
    intro G i_ m_writtenMany m_tooMuch WR h80 h147 h85 ci cwm jw hfr hlen hsl hm hk0
    refine ab_iload_n d_MO_writeSubject_2 rfl ?_
    refine ab_iload_n d_MO_writeSubject_3 rfl ?_
    refine zz_icmp_ge (tgt := 30) d_MO_writeSubject_4 (by decide) (by omega) (by omega) (fun c1 => ?_) (fun c1 => ?_)
    · refine ab_less (L' := [none, none, none, none]) (fun i v h => by rcases i with _ | _ | _ | _ | i <;> first | exact h | (simp at h)) ?_
      exact hk0 _ _ _ _ h80 h147 (by omega) (by exact swI_e jw (by first | (left; omega) | (right; omega))) hfr hlen hsl
    · refine ab_aload_n d_MO_writeSubject_7 rfl ?_
      refine ab_getf (fs := mof m_thrown m_taped m_length m_out m_wide m_gathered m_sets m_ranges m_nodes m_at m_flags m_fault m_place m_numbered m_depth m_value m_isNot m_least0 m_most0 m_slot m_work m_got m_rowMany m_charAt m_charWide m_trail m_isMatch m_matchGroups m_allFrom m_allBefore m_founds m_pieces m_writtenMany m_templateWide m_tooMuch) f_MO_597 d_MO_writeSubject_8 h80.2.2 rfl ?_
      refine zz_if_ne (tgt := 30) d_MO_writeSubject_11 (by decide) (by omega) (fun c2 => ?_) (fun c2 => ?_)
      · refine ab_less (L' := [none, none, none, none]) (fun i v h => by rcases i with _ | _ | _ | _ | i <;> first | exact h | (simp at h)) ?_
        exact hk0 _ _ _ _ h80 h147 (by omega) (by exact swI_e jw (by first | (left; omega) | (right; omega))) hfr hlen hsl
      · refine ab_aload_n d_MO_writeSubject_14 rfl ?_
        refine ab_aload_n d_MO_writeSubject_15 rfl ?_
        refine ab_getf (fs := mof m_thrown m_taped m_length m_out m_wide m_gathered m_sets m_ranges m_nodes m_at m_flags m_fault m_place m_numbered m_depth m_value m_isNot m_least0 m_most0 m_slot m_work m_got m_rowMany m_charAt m_charWide m_trail m_isMatch m_matchGroups m_allFrom m_allBefore m_founds m_pieces m_writtenMany m_templateWide m_tooMuch) f_MO_22 d_MO_writeSubject_16 h80.2.2 rfl ?_
        refine ab_iload_n d_MO_writeSubject_19 rfl ?_
        refine zz_iald d_MO_writeSubject_20 h85 (by omega) ?_
        refine ab_callV (d' := d - 1) (as := [vz (A_subject i_)]) (st := []) (r := _) (z_MO_write (o := o) (m_thrown := m_thrown) (m_taped := m_taped) (m_length := m_length) (m_out := m_out) (m_wide := m_wide) (m_gathered := m_gathered) (m_sets := m_sets) (m_ranges := m_ranges) (m_nodes := m_nodes) (m_at := m_at) (m_flags := m_flags) (m_fault := m_fault) (m_place := m_place) (m_numbered := m_numbered) (m_depth := m_depth) (m_value := m_value) (m_isNot := m_isNot) (m_least0 := m_least0) (m_most0 := m_most0) (m_slot := m_slot) (m_work := m_work) (m_got := m_got) (m_rowMany := m_rowMany) (m_charAt := m_charAt) (m_charWide := m_charWide) (m_trail := m_trail) (m_isMatch := m_isMatch) (m_matchGroups := m_matchGroups) (m_allFrom := m_allFrom) (m_allBefore := m_allBefore) (m_founds := m_founds) (m_pieces := m_pieces) (m_writtenMany := m_writtenMany) (m_templateWide := m_templateWide) (m_tooMuch := m_tooMuch) (WR := WR) (v := (A_subject i_)) (O9 := (O9 ++ sbR A_subject a i_)) h80 h147 (by omega) (by omega) (by omega) jw.1) (fun oc G2 h => by rcases h with ⟨_, _, _, h, _⟩ <;> exact ⟨_, h⟩) (by omega) m_MO_write ml_MO_600 im_MO_write se_MO_write c_MO h80.2.2 (Nat.le_of_ble_eq_true rfl) d_MO_writeSubject_21 rfl ?_
        intro v G3 hq
        rcases hq with ⟨k24, t25, WR26, hv, hfk, hlk, hsk, hN80, hN147, hq7, hq8⟩
        cases hv
        have h85 := hfk.get h85 (by decide)
        have hfr := hfr.tr hfk (by decide)
        have hlen := hlk.trans hlen
        have hsl := hsk.trans hsl
        have h80 := hN80
        have h147 := hN147
        change ab_W _ _ _ G3 24 [some (vR 80), none, some (vz b), some (vz i_)] [] _
        refine zz_iinc d_MO_writeSubject_24 rfl (Nat.le_of_ble_eq_true rfl) (Nat.le_of_ble_eq_true rfl) rfl ?_
        change ab_W _ _ _ G3 27 [some (vR 80), none, some (vz b), some (vz (i_ + 1))] [] _
        refine ab_goto (tgt := 2) d_MO_writeSubject_27 (by decide) ?_
        exact ih (i_ := (i_ + 1)) (m_writtenMany := k24) (m_tooMuch := t25) (WR := WR26) h80 h147 h85 (by omega) (by omega) (swI_s jw (by omega) hq8) hfr hlen hsl (by omega) hk0
set_option maxRecDepth 100000 in
set_option maxHeartbeats 4000000 in
theorem z_MO_writeSubject {X : ab_X} {d : Nat} {o : Nat → Nat} {G : ab_G} {m_thrown : Int} {m_taped : Int} {m_length : Int} {m_out : Int} {m_wide : Int} {m_gathered : Int} {m_sets : Int} {m_ranges : Int} {m_nodes : Int} {m_at : Int} {m_flags : Int} {m_fault : Int} {m_place : Int} {m_numbered : Int} {m_depth : Int} {m_value : Int} {m_isNot : Int} {m_least0 : Int} {m_most0 : Int} {m_slot : Int} {m_work : Int} {m_got : Int} {m_rowMany : Int} {m_charAt : Int} {m_charWide : Int} {m_trail : Int} {m_isMatch : Int} {m_matchGroups : Int} {m_allFrom : Int} {m_allBefore : Int} {m_founds : Int} {m_pieces : Int} {m_writtenMany : Int} {m_templateWide : Int} {m_tooMuch : Int} {A_subject : Int → Int} {WR : Int → Int} {a : Int} {b : Int} {O9 : List Int} (h80 : cc o G 80 280 (ab_ob 12 (mof m_thrown m_taped m_length m_out m_wide m_gathered m_sets m_ranges m_nodes m_at m_flags m_fault m_place m_numbered m_depth m_value m_isNot m_least0 m_most0 m_slot m_work m_got m_rowMany m_charAt m_charWide m_trail m_isMatch m_matchGroups m_allFrom m_allBefore m_founds m_pieces m_writtenMany m_templateWide m_tooMuch))) (h147 : cc o G 147 347 (za 6000 WR)) (h85 : cc o G 85 285 (za 2000 A_subject)) (n18 : ab_n0 = 18) (cb : -1 ≤ b ∧ b ≤ 2000 ∧ 0 ≤ a ∧ a ≤ 2000) (cwm : 0 ≤ m_writtenMany ∧ m_writtenMany ≤ 6000 ∧ 0 ≤ m_tooMuch ∧ m_tooMuch ≤ 1) (jw : wmR WR m_writtenMany m_tooMuch O9) (hd : 2 ≤ d) : ab_F X d y_MO_writeSubject (.code y_MO_writeSubject b_MO_writeSubject 4 none) [vR 80, vz a, vz b] G (fun oc G2 => ∃ k2 : Int, ∃ t2 : Int, ∃ WR2 : Int → Int, oc = .returned none ∧ fx o o [280, 347] G G2 ∧ G2.length = G.length ∧ ab_slots G2 = ab_slots G ∧ cc o G2 80 280 (ab_ob 12 (mof m_thrown m_taped m_length m_out m_wide m_gathered m_sets m_ranges m_nodes m_at m_flags m_fault m_place m_numbered m_depth m_value m_isNot m_least0 m_most0 m_slot m_work m_got m_rowMany m_charAt m_charWide m_trail m_isMatch m_matchGroups m_allFrom m_allBefore m_founds m_pieces k2 m_templateWide t2)) ∧ cc o G2 147 347 (za 6000 WR2) ∧ (0 ≤ k2 ∧ k2 ≤ 6000 ∧ 0 ≤ t2 ∧ t2 ≤ 1) ∧ (wmR WR2 k2 t2 (O9 ++ sbR A_subject a b))) := by
  refine ab_F_of (by decide +kernel) (Nat.le_of_ble_eq_true rfl) ?_
  obtain ⟨Q, hQ⟩ : ∃ z : Outcome → ab_G → Prop, z = (fun oc G2 => ∃ k2 : Int, ∃ t2 : Int, ∃ WR2 : Int → Int, oc = .returned none ∧ fx o o [280, 347] G G2 ∧ G2.length = G.length ∧ ab_slots G2 = ab_slots G ∧ cc o G2 80 280 (ab_ob 12 (mof m_thrown m_taped m_length m_out m_wide m_gathered m_sets m_ranges m_nodes m_at m_flags m_fault m_place m_numbered m_depth m_value m_isNot m_least0 m_most0 m_slot m_work m_got m_rowMany m_charAt m_charWide m_trail m_isMatch m_matchGroups m_allFrom m_allBefore m_founds m_pieces k2 m_templateWide t2)) ∧ cc o G2 147 347 (za 6000 WR2) ∧ (0 ≤ k2 ∧ k2 ≤ 6000 ∧ 0 ≤ t2 ∧ t2 ≤ 1) ∧ (wmR WR2 k2 t2 (O9 ++ sbR A_subject a b))) := ⟨_, rfl⟩
  rw [← hQ]
  change ab_W X (ab_pl y_MO_writeSubject b_MO_writeSubject 4 none) d G 0 [some (vR 80), some (vz a), some (vz b), none] [] Q
  have hfr : fx o o [280, 347] G G := fx.rf
  have hlen : G.length = G.length := rfl
  have hsl : ab_slots G = ab_slots G := rfl
  refine ab_iload_n d_MO_writeSubject_0 rfl ?_
  refine ab_istore_n d_MO_writeSubject_1 (Nat.le_of_ble_eq_true rfl) (Nat.le_of_ble_eq_true rfl) rfl ?_
  change ab_W _ _ _ G 2 [some (vR 80), some (vz a), some (vz b), some (vz a)] [] _
  refine ab_less (L' := [some (vR 80), none, some (vz b), some (vz a)]) (fun i v h => by rcases i with _ | _ | _ | _ | i <;> first | exact h | (simp at h)) ?_
  refine y_MO_writeSubject_2 (m_thrown := m_thrown) (m_taped := m_taped) (m_length := m_length) (m_out := m_out) (m_wide := m_wide) (m_gathered := m_gathered) (m_sets := m_sets) (m_ranges := m_ranges) (m_nodes := m_nodes) (m_at := m_at) (m_flags := m_flags) (m_fault := m_fault) (m_place := m_place) (m_numbered := m_numbered) (m_depth := m_depth) (m_value := m_value) (m_isNot := m_isNot) (m_least0 := m_least0) (m_most0 := m_most0) (m_slot := m_slot) (m_work := m_work) (m_got := m_got) (m_rowMany := m_rowMany) (m_charAt := m_charAt) (m_charWide := m_charWide) (m_trail := m_trail) (m_isMatch := m_isMatch) (m_matchGroups := m_matchGroups) (m_allFrom := m_allFrom) (m_allBefore := m_allBefore) (m_founds := m_founds) (m_pieces := m_pieces) (m_templateWide := m_templateWide) (A_subject := A_subject) (a := a) (b := b) (O9 := O9) (G0 := G) (i_ := a) (m_writtenMany := m_writtenMany) (m_tooMuch := m_tooMuch) (WR := WR) (by omega) (by omega) (by omega) (Int.toNat (2000 - a) + 1) h80 h147 h85 (by omega) (by omega) (swI_0 jw) fx.rf rfl rfl (by omega) (fun G1 k22 t23 WR24 hN80 hN147 hq5 hq6 hfk hlk hsk => ?_)
  · have h85 := hfk.get h85 (by decide)
    have hfr := hfr.tr hfk (by decide)
    have hlen := hlk.trans hlen
    have hsl := hsk.trans hsl
    have h80 := hN80
    have h147 := hN147
    change ab_W _ _ _ G1 30 [none, none, none, none] [] _
    refine ab_vret rfl d_MO_writeSubject_30 ?_
    rw [hQ]; exact ⟨_, _, _, rfl, hfr, hlen, hsl, h80, h147, (by omega), (by exact hq6)⟩
set_option maxRecDepth 100000 in
set_option maxHeartbeats 4000000 in
theorem y_MO_writeTemplate_2 {X : ab_X} {d : Nat} {Q : Outcome → ab_G → Prop} {o : Nat → Nat} {G0 : ab_G} {m_thrown : Int} {m_taped : Int} {m_length : Int} {m_out : Int} {m_wide : Int} {m_gathered : Int} {m_sets : Int} {m_ranges : Int} {m_nodes : Int} {m_at : Int} {m_flags : Int} {m_fault : Int} {m_place : Int} {m_numbered : Int} {m_depth : Int} {m_value : Int} {m_isNot : Int} {m_least0 : Int} {m_most0 : Int} {m_slot : Int} {m_work : Int} {m_got : Int} {m_rowMany : Int} {m_charAt : Int} {m_charWide : Int} {m_trail : Int} {m_isMatch : Int} {m_matchGroups : Int} {m_allFrom : Int} {m_allBefore : Int} {m_founds : Int} {m_pieces : Int} {A_tape : Int → Int} {A_nameSize : Int → Int} {A_nameOf : Int → Int} {A_groupsOf : Int → Int} {A_subject : Int → Int} {SP : Int → Int} {s : Int} {n : Int} {V_ : Int → Prop} {O9 : List Int} {L9 : List Int} (n18 : ab_n0 = 18) (cg : 0 ≤ s ∧ s ≤ 5 ∧ 0 ≤ n ∧ n ≤ 2000 ∧ 0 ≤ A_groupsOf s ∧ A_groupsOf s ≤ 9) (jtp : rgs A_tape 2000 0 255) (jns : rgs A_nameSize 60 0 12) (jnm : rgs A_nameOf 720 0 255) (jsp : rgs SP 20 (-1) 2000) (jtg : tgd A_tape A_nameSize A_nameOf A_groupsOf s n V_) (jnd : nmD (gNZ A_nameSize s) (gNM A_nameOf s) (A_groupsOf s)) (jtl : tpL A_tape n (A_groupsOf s) (gNZ A_nameSize s) (gNM A_nameOf s) L9) (hd : 3 ≤ d) : ∀ (mz : Nat) {G : ab_G} {p : Int} {m_templateWide : Int} {m_writtenMany : Int} {m_tooMuch : Int} {WR : Int → Int}, (cc o G 80 280 (ab_ob 12 (mof m_thrown m_taped m_length m_out m_wide m_gathered m_sets m_ranges m_nodes m_at m_flags m_fault m_place m_numbered m_depth m_value m_isNot m_least0 m_most0 m_slot m_work m_got m_rowMany m_charAt m_charWide m_trail m_isMatch m_matchGroups m_allFrom m_allBefore m_founds m_pieces m_writtenMany m_templateWide m_tooMuch))) → (cc o G 147 347 (za 6000 WR)) → (cc o G 138 338 (za 20 SP)) → (cc o G 84 284 (za 2000 A_tape)) → (cc o G 126 326 (za 720 A_nameOf)) → (cc o G 127 327 (za 60 A_nameSize)) → (cc o G 114 314 (za 6 A_groupsOf)) → (cc o G 85 285 (za 2000 A_subject)) → (0 ≤ p ∧ p ≤ 4100) → (V_ p) → (0 ≤ m_writtenMany ∧ m_writtenMany ≤ 6000 ∧ 0 ≤ m_tooMuch ∧ m_tooMuch ≤ 1) → (twI A_tape n (A_groupsOf s) (gNZ A_nameSize s) (gNM A_nameOf s) A_subject SP O9 p WR m_writtenMany m_tooMuch) → (fx o o [280, 347] G0 G) → (G.length = G0.length) → (ab_slots G = ab_slots G0) → (Int.toNat (5000 - p) < mz) → (∀ (G2 : ab_G) (k2 : Int) (t2 : Int) (WR2 : Int → Int) (w2 : Int), (cc o G2 80 280 (ab_ob 12 (mof m_thrown m_taped m_length m_out m_wide m_gathered m_sets m_ranges m_nodes m_at m_flags m_fault m_place m_numbered m_depth m_value m_isNot m_least0 m_most0 m_slot m_work m_got m_rowMany m_charAt m_charWide m_trail m_isMatch m_matchGroups m_allFrom m_allBefore m_founds m_pieces k2 w2 t2))) → (cc o G2 147 347 (za 6000 WR2)) → (0 ≤ k2 ∧ k2 ≤ 6000 ∧ 0 ≤ t2 ∧ t2 ≤ 1) → (wmR WR2 k2 t2 (O9 ++ exS A_subject SP L9)) → (fx o o [280, 347] G0 G2) → (G2.length = G0.length) → (ab_slots G2 = ab_slots G0) → ab_W X (ab_pl y_MO_writeTemplate b_MO_writeTemplate 5 none) d G2 114 [none, none, none, none, none] [] Q) → ab_W X (ab_pl y_MO_writeTemplate b_MO_writeTemplate 5 none) d G 2 [some (vR 80), some (vz s), some (vz n), some (vz p), none] [] Q := by
  intro mz
  induction mz with
  | zero => intro G p m_templateWide m_writtenMany m_tooMuch WR h80 h147 h138 h84 h126 h127 h114 h85 ci jv cwm jw hfr hlen hsl hm hk0; exact absurd hm (Nat.not_lt_zero _)
  | succ mz ih =>
    intro G p m_templateWide m_writtenMany m_tooMuch WR h80 h147 h138 h84 h126 h127 h114 h85 ci jv cwm jw hfr hlen hsl hm hk0
    have jw0_ := jw
    obtain ⟨L_, hx_, hw_⟩ := jw0_
    refine ab_iload_n d_MO_writeTemplate_2 rfl ?_
    refine ab_iload_n d_MO_writeTemplate_3 rfl ?_
    refine zz_icmp_ge (tgt := 114) d_MO_writeTemplate_4 (by decide) (by omega) (by omega) (fun c1 => ?_) (fun c1 => ?_)
    · refine ab_less (L' := [none, none, none, none, none]) (fun i v h => by rcases i with _ | _ | _ | _ | _ | i <;> first | exact h | (simp at h)) ?_
      exact hk0 _ _ _ _ _ h80 h147 (by omega) (by exact twI_e jnd jtl jw (by first | (left; omega) | (right; omega))) hfr hlen hsl
    · refine ab_aload_n d_MO_writeTemplate_7 rfl ?_
      refine ab_getf (fs := mof m_thrown m_taped m_length m_out m_wide m_gathered m_sets m_ranges m_nodes m_at m_flags m_fault m_place m_numbered m_depth m_value m_isNot m_least0 m_most0 m_slot m_work m_got m_rowMany m_charAt m_charWide m_trail m_isMatch m_matchGroups m_allFrom m_allBefore m_founds m_pieces m_writtenMany m_templateWide m_tooMuch) f_MO_597 d_MO_writeTemplate_8 h80.2.2 rfl ?_
      refine zz_if_ne (tgt := 114) d_MO_writeTemplate_11 (by decide) (by omega) (fun c2 => ?_) (fun c2 => ?_)
      · refine ab_less (L' := [none, none, none, none, none]) (fun i v h => by rcases i with _ | _ | _ | _ | _ | i <;> first | exact h | (simp at h)) ?_
        exact hk0 _ _ _ _ _ h80 h147 (by omega) (by exact twI_e jnd jtl jw (by first | (left; omega) | (right; omega))) hfr hlen hsl
      · refine ab_aload_n d_MO_writeTemplate_14 rfl ?_
        refine ab_getf (fs := mof m_thrown m_taped m_length m_out m_wide m_gathered m_sets m_ranges m_nodes m_at m_flags m_fault m_place m_numbered m_depth m_value m_isNot m_least0 m_most0 m_slot m_work m_got m_rowMany m_charAt m_charWide m_trail m_isMatch m_matchGroups m_allFrom m_allBefore m_founds m_pieces m_writtenMany m_templateWide m_tooMuch) f_MO_19 d_MO_writeTemplate_15 h80.2.2 rfl ?_
        refine ab_iload_n d_MO_writeTemplate_18 rfl ?_
        refine zz_iald d_MO_writeTemplate_19 h84 (by omega) ?_
        have hq3 := jtp p (by omega) (by omega)
        refine zz_bipush d_MO_writeTemplate_20 (by decide) ?_
        refine zz_icmp_eq (tgt := 38) d_MO_writeTemplate_22 (by decide) (by omega) (by decide) (fun c4 => ?_) (fun c4 => ?_)
        · obtain ⟨hv0_, hvg_⟩ := jtg.2 p jv
          obtain ⟨hok_, hwv_⟩ := (hvg_ (by omega)).2 (by omega)
          refine ab_aload_n d_MO_writeTemplate_38 rfl ?_
          refine ab_iload_n d_MO_writeTemplate_39 rfl ?_
          refine ab_iload_n d_MO_writeTemplate_40 rfl ?_
          refine ab_iload_n d_MO_writeTemplate_41 rfl ?_
          refine ab_callV (d' := d - 1) (as := [vz s, vz p, vz n]) (st := []) (r := _) (z_MO_groupAt (o := o) (m_thrown := m_thrown) (m_taped := m_taped) (m_length := m_length) (m_out := m_out) (m_wide := m_wide) (m_gathered := m_gathered) (m_sets := m_sets) (m_ranges := m_ranges) (m_nodes := m_nodes) (m_at := m_at) (m_flags := m_flags) (m_fault := m_fault) (m_place := m_place) (m_numbered := m_numbered) (m_depth := m_depth) (m_value := m_value) (m_isNot := m_isNot) (m_least0 := m_least0) (m_most0 := m_most0) (m_slot := m_slot) (m_work := m_work) (m_got := m_got) (m_rowMany := m_rowMany) (m_charAt := m_charAt) (m_charWide := m_charWide) (m_trail := m_trail) (m_isMatch := m_isMatch) (m_matchGroups := m_matchGroups) (m_allFrom := m_allFrom) (m_allBefore := m_allBefore) (m_founds := m_founds) (m_pieces := m_pieces) (m_writtenMany := m_writtenMany) (m_templateWide := m_templateWide) (m_tooMuch := m_tooMuch) (A_tape := A_tape) (A_nameSize := A_nameSize) (A_nameOf := A_nameOf) (A_groupsOf := A_groupsOf) (s := s) (p := p) (n := n) h80 h84 h126 h127 h114 (by omega) (by omega) jtp jns jnm (by omega) (by omega)) (fun oc G2 h => by rcases h with ⟨_, h, _⟩ | ⟨_, h, _⟩ | ⟨_, _, h, _⟩ <;> exact ⟨_, h⟩) (by omega) m_MO_groupAt ml_MO_606 im_MO_groupAt se_MO_groupAt c_MO h80.2.2 (Nat.le_of_ble_eq_true rfl) d_MO_writeTemplate_42 rfl ?_
          intro v G5 hq
          rcases hq with ⟨w26, hv, hfk, hlk, hsk, hN80, hq7, hq8, hq9⟩ | ⟨w210, hv, hfk, hlk, hsk, hN80, hq11, hq12, hq13, hq14⟩ | ⟨g15, w216, hv, hfk, hlk, hsk, hN80, hq17, hq18, hq19, hq20, hq21⟩
          · cases hv
            have h147 := hfk.get h147 (by decide)
            have h138 := hfk.get h138 (by decide)
            have h84 := hfk.get h84 (by decide)
            have h126 := hfk.get h126 (by decide)
            have h127 := hfk.get h127 (by decide)
            have h114 := hfk.get h114 (by decide)
            have h85 := hfk.get h85 (by decide)
            have hfr := hfr.tr hfk (by decide)
            have hlen := hlk.trans hlen
            have hsl := hsk.trans hsl
            have h80 := hN80
            change ab_W _ _ _ G5 45 [some (vR 80), some (vz s), some (vz n), some (vz p), none] [vz (-1)] _
            exact absurd hok_ hq8
          · cases hv
            have h147 := hfk.get h147 (by decide)
            have h138 := hfk.get h138 (by decide)
            have h84 := hfk.get h84 (by decide)
            have h126 := hfk.get h126 (by decide)
            have h127 := hfk.get h127 (by decide)
            have h114 := hfk.get h114 (by decide)
            have h85 := hfk.get h85 (by decide)
            have hfr := hfr.tr hfk (by decide)
            have hlen := hlk.trans hlen
            have hsl := hsk.trans hsl
            have h80 := hN80
            change ab_W _ _ _ G5 45 [some (vR 80), some (vz s), some (vz n), some (vz p), none] [vz 100] _
            refine ab_istore d_MO_writeTemplate_45 (Nat.le_of_ble_eq_true rfl) (Nat.le_of_ble_eq_true rfl) rfl ?_
            change ab_W _ _ _ G5 47 [some (vR 80), some (vz s), some (vz n), some (vz p), some (vz 100)] [] _
            refine ab_iload d_MO_writeTemplate_47 rfl ?_
            refine zz_bipush d_MO_writeTemplate_49 (by decide) ?_
            refine zz_icmp_ne (tgt := 63) d_MO_writeTemplate_51 (by decide) (by decide) (by decide) (fun c22 => absurd c22 (by decide)) (fun c22 => ?_)
            refine ab_aload_n d_MO_writeTemplate_54 rfl ?_
            refine zz_bipush d_MO_writeTemplate_55 (by decide) ?_
            refine ab_callV (d' := d - 1) (as := [vz 36]) (st := []) (r := _) (z_MO_write (o := o) (m_thrown := m_thrown) (m_taped := m_taped) (m_length := m_length) (m_out := m_out) (m_wide := m_wide) (m_gathered := m_gathered) (m_sets := m_sets) (m_ranges := m_ranges) (m_nodes := m_nodes) (m_at := m_at) (m_flags := m_flags) (m_fault := m_fault) (m_place := m_place) (m_numbered := m_numbered) (m_depth := m_depth) (m_value := m_value) (m_isNot := m_isNot) (m_least0 := m_least0) (m_most0 := m_most0) (m_slot := m_slot) (m_work := m_work) (m_got := m_got) (m_rowMany := m_rowMany) (m_charAt := m_charAt) (m_charWide := m_charWide) (m_trail := m_trail) (m_isMatch := m_isMatch) (m_matchGroups := m_matchGroups) (m_allFrom := m_allFrom) (m_allBefore := m_allBefore) (m_founds := m_founds) (m_pieces := m_pieces) (m_writtenMany := m_writtenMany) (m_templateWide := w210) (m_tooMuch := m_tooMuch) (WR := WR) (v := 36) (O9 := (O9 ++ exS A_subject SP L_)) h80 h147 (by omega) (by omega) (by omega) hw_) (fun oc G2 h => by rcases h with ⟨_, _, _, h, _⟩ <;> exact ⟨_, h⟩) (by omega) m_MO_write ml_MO_600 im_MO_write se_MO_write c_MO h80.2.2 (Nat.le_of_ble_eq_true rfl) d_MO_writeTemplate_57 rfl ?_
            intro v G23 hq
            rcases hq with ⟨k224, t225, WR226, hv, hfk, hlk, hsk, hN80, hN147, hq27, hq28⟩
            cases hv
            have h138 := hfk.get h138 (by decide)
            have h84 := hfk.get h84 (by decide)
            have h126 := hfk.get h126 (by decide)
            have h127 := hfk.get h127 (by decide)
            have h114 := hfk.get h114 (by decide)
            have h85 := hfk.get h85 (by decide)
            have hfr := hfr.tr hfk (by decide)
            have hlen := hlk.trans hlen
            have hsl := hsk.trans hsl
            have h80 := hN80
            have h147 := hN147
            change ab_W _ _ _ G23 60 [some (vR 80), some (vz s), some (vz n), some (vz p), some (vz 100)] [] _
            refine ab_goto (tgt := 99) d_MO_writeTemplate_60 (by decide) ?_
            refine ab_iload_n d_MO_writeTemplate_99 rfl ?_
            refine ab_aload_n d_MO_writeTemplate_100 rfl ?_
            refine ab_getf (fs := mof m_thrown m_taped m_length m_out m_wide m_gathered m_sets m_ranges m_nodes m_at m_flags m_fault m_place m_numbered m_depth m_value m_isNot m_least0 m_most0 m_slot m_work m_got m_rowMany m_charAt m_charWide m_trail m_isMatch m_matchGroups m_allFrom m_allBefore m_founds m_pieces k224 w210 t225) f_MO_603 d_MO_writeTemplate_101 h80.2.2 rfl ?_
            refine zz_iconst d_MO_writeTemplate_104 ?_
            refine zz_isub d_MO_writeTemplate_105 ?_
            refine zz_iadd d_MO_writeTemplate_106 ?_
            refine ab_istore_n d_MO_writeTemplate_107 (Nat.le_of_ble_eq_true rfl) (Nat.le_of_ble_eq_true rfl) rfl ?_
            change ab_W _ _ _ G23 108 [some (vR 80), some (vz s), some (vz n), some (vz (p + (w210 - 1))), some (vz 100)] [] _
            refine zz_iinc d_MO_writeTemplate_108 rfl (Nat.le_of_ble_eq_true rfl) (Nat.le_of_ble_eq_true rfl) rfl ?_
            change ab_W _ _ _ G23 111 [some (vR 80), some (vz s), some (vz n), some (vz ((p + (w210 - 1)) + 1)), some (vz 100)] [] _
            refine ab_goto (tgt := 2) d_MO_writeTemplate_111 (by decide) ?_
            refine ab_less (L' := [some (vR 80), some (vz s), some (vz n), some (vz ((p + (w210 - 1)) + 1)), none]) (fun i v h => by rcases i with _ | _ | _ | _ | _ | i <;> first | exact h | (simp at h)) ?_
            exact ih (p := ((p + (w210 - 1)) + 1)) (m_templateWide := w210) (m_writtenMany := k224) (m_tooMuch := t225) (WR := WR226) h80 h147 h138 h84 h126 h127 h114 h85 (by omega) (by rw [show ((p + (w210 - 1)) + 1) = p + w210 by omega]; exact hwv_ _ hq13) (by omega) (twI_m hx_ (by omega) hq14 (by omega) (by rw [itS_b (by omega)]; exact hq28)) hfr hlen hsl (by omega) hk0
          · cases hv
            have h147 := hfk.get h147 (by decide)
            have h138 := hfk.get h138 (by decide)
            have h84 := hfk.get h84 (by decide)
            have h126 := hfk.get h126 (by decide)
            have h127 := hfk.get h127 (by decide)
            have h114 := hfk.get h114 (by decide)
            have h85 := hfk.get h85 (by decide)
            have hfr := hfr.tr hfk (by decide)
            have hlen := hlk.trans hlen
            have hsl := hsk.trans hsl
            have h80 := hN80
            change ab_W _ _ _ G5 45 [some (vR 80), some (vz s), some (vz n), some (vz p), none] [vz g15] _
            refine ab_istore d_MO_writeTemplate_45 (Nat.le_of_ble_eq_true rfl) (Nat.le_of_ble_eq_true rfl) rfl ?_
            change ab_W _ _ _ G5 47 [some (vR 80), some (vz s), some (vz n), some (vz p), some (vz g15)] [] _
            refine ab_iload d_MO_writeTemplate_47 rfl ?_
            refine zz_bipush d_MO_writeTemplate_49 (by decide) ?_
            refine zz_icmp_ne (tgt := 63) d_MO_writeTemplate_51 (by decide) (by omega) (by decide) (fun c29 => ?_) (fun c29 => absurd c29 (by omega))
            refine ab_aload_n d_MO_writeTemplate_63 rfl ?_
            refine ab_getf (fs := mof m_thrown m_taped m_length m_out m_wide m_gathered m_sets m_ranges m_nodes m_at m_flags m_fault m_place m_numbered m_depth m_value m_isNot m_least0 m_most0 m_slot m_work m_got m_rowMany m_charAt m_charWide m_trail m_isMatch m_matchGroups m_allFrom m_allBefore m_founds m_pieces m_writtenMany w216 m_tooMuch) f_MO_190 d_MO_writeTemplate_64 h80.2.2 rfl ?_
            refine zz_iconst d_MO_writeTemplate_67 ?_
            refine ab_iload d_MO_writeTemplate_68 rfl ?_
            refine zz_imul d_MO_writeTemplate_70 ?_
            refine zz_iald d_MO_writeTemplate_71 h138 (by omega) ?_
            have hq30 := jsp (2 * g15) (by omega) (by omega)
            refine zz_if_lt (tgt := 99) d_MO_writeTemplate_72 (by decide) (by omega) (fun c31 => ?_) (fun c31 => ?_)
            · refine ab_iload_n d_MO_writeTemplate_99 rfl ?_
              refine ab_aload_n d_MO_writeTemplate_100 rfl ?_
              refine ab_getf (fs := mof m_thrown m_taped m_length m_out m_wide m_gathered m_sets m_ranges m_nodes m_at m_flags m_fault m_place m_numbered m_depth m_value m_isNot m_least0 m_most0 m_slot m_work m_got m_rowMany m_charAt m_charWide m_trail m_isMatch m_matchGroups m_allFrom m_allBefore m_founds m_pieces m_writtenMany w216 m_tooMuch) f_MO_603 d_MO_writeTemplate_101 h80.2.2 rfl ?_
              refine zz_iconst d_MO_writeTemplate_104 ?_
              refine zz_isub d_MO_writeTemplate_105 ?_
              refine zz_iadd d_MO_writeTemplate_106 ?_
              refine ab_istore_n d_MO_writeTemplate_107 (Nat.le_of_ble_eq_true rfl) (Nat.le_of_ble_eq_true rfl) rfl ?_
              change ab_W _ _ _ G5 108 [some (vR 80), some (vz s), some (vz n), some (vz (p + (w216 - 1))), some (vz g15)] [] _
              refine zz_iinc d_MO_writeTemplate_108 rfl (Nat.le_of_ble_eq_true rfl) (Nat.le_of_ble_eq_true rfl) rfl ?_
              change ab_W _ _ _ G5 111 [some (vR 80), some (vz s), some (vz n), some (vz ((p + (w216 - 1)) + 1)), some (vz g15)] [] _
              refine ab_goto (tgt := 2) d_MO_writeTemplate_111 (by decide) ?_
              refine ab_less (L' := [some (vR 80), some (vz s), some (vz n), some (vz ((p + (w216 - 1)) + 1)), none]) (fun i v h => by rcases i with _ | _ | _ | _ | _ | i <;> first | exact h | (simp at h)) ?_
              exact ih (p := ((p + (w216 - 1)) + 1)) (m_templateWide := w216) (m_writtenMany := m_writtenMany) (m_tooMuch := m_tooMuch) (WR := WR) h80 h147 h138 h84 h126 h127 h114 h85 (by omega) (by rw [show ((p + (w216 - 1)) + 1) = p + w216 by omega]; exact hwv_ _ hq20) (by omega) (twI_m hx_ (by omega) hq21 (by omega) (by rw [itS_n (by omega) (by omega), List.append_nil]; exact hw_)) hfr hlen hsl (by omega) hk0
            · refine ab_aload_n d_MO_writeTemplate_75 rfl ?_
              refine ab_aload_n d_MO_writeTemplate_76 rfl ?_
              refine ab_getf (fs := mof m_thrown m_taped m_length m_out m_wide m_gathered m_sets m_ranges m_nodes m_at m_flags m_fault m_place m_numbered m_depth m_value m_isNot m_least0 m_most0 m_slot m_work m_got m_rowMany m_charAt m_charWide m_trail m_isMatch m_matchGroups m_allFrom m_allBefore m_founds m_pieces m_writtenMany w216 m_tooMuch) f_MO_190 d_MO_writeTemplate_77 h80.2.2 rfl ?_
              refine zz_iconst d_MO_writeTemplate_80 ?_
              refine ab_iload d_MO_writeTemplate_81 rfl ?_
              refine zz_imul d_MO_writeTemplate_83 ?_
              refine zz_iald d_MO_writeTemplate_84 h138 (by omega) ?_
              have hq32 := jsp (2 * g15) (by omega) (by omega)
              refine ab_aload_n d_MO_writeTemplate_85 rfl ?_
              refine ab_getf (fs := mof m_thrown m_taped m_length m_out m_wide m_gathered m_sets m_ranges m_nodes m_at m_flags m_fault m_place m_numbered m_depth m_value m_isNot m_least0 m_most0 m_slot m_work m_got m_rowMany m_charAt m_charWide m_trail m_isMatch m_matchGroups m_allFrom m_allBefore m_founds m_pieces m_writtenMany w216 m_tooMuch) f_MO_190 d_MO_writeTemplate_86 h80.2.2 rfl ?_
              refine zz_iconst d_MO_writeTemplate_89 ?_
              refine ab_iload d_MO_writeTemplate_90 rfl ?_
              refine zz_imul d_MO_writeTemplate_92 ?_
              refine zz_iconst d_MO_writeTemplate_93 ?_
              refine zz_iadd d_MO_writeTemplate_94 ?_
              refine zz_iald d_MO_writeTemplate_95 h138 (by omega) ?_
              have hq33 := jsp ((2 * g15) + 1) (by omega) (by omega)
              refine ab_callV (d' := d - 1) (as := [vz (SP (2 * g15)), vz (SP ((2 * g15) + 1))]) (st := []) (r := _) (z_MO_writeSubject (o := o) (m_thrown := m_thrown) (m_taped := m_taped) (m_length := m_length) (m_out := m_out) (m_wide := m_wide) (m_gathered := m_gathered) (m_sets := m_sets) (m_ranges := m_ranges) (m_nodes := m_nodes) (m_at := m_at) (m_flags := m_flags) (m_fault := m_fault) (m_place := m_place) (m_numbered := m_numbered) (m_depth := m_depth) (m_value := m_value) (m_isNot := m_isNot) (m_least0 := m_least0) (m_most0 := m_most0) (m_slot := m_slot) (m_work := m_work) (m_got := m_got) (m_rowMany := m_rowMany) (m_charAt := m_charAt) (m_charWide := m_charWide) (m_trail := m_trail) (m_isMatch := m_isMatch) (m_matchGroups := m_matchGroups) (m_allFrom := m_allFrom) (m_allBefore := m_allBefore) (m_founds := m_founds) (m_pieces := m_pieces) (m_writtenMany := m_writtenMany) (m_templateWide := w216) (m_tooMuch := m_tooMuch) (A_subject := A_subject) (WR := WR) (a := (SP (2 * g15))) (b := (SP ((2 * g15) + 1))) (O9 := (O9 ++ exS A_subject SP L_)) h80 h147 h85 (by omega) (by omega) (by omega) hw_ (by omega)) (fun oc G2 h => by rcases h with ⟨_, _, _, h, _⟩ <;> exact ⟨_, h⟩) (by omega) m_MO_writeSubject ml_MO_609 im_MO_writeSubject se_MO_writeSubject c_MO h80.2.2 (Nat.le_of_ble_eq_true rfl) d_MO_writeTemplate_96 rfl ?_
              intro v G34 hq
              rcases hq with ⟨k235, t236, WR237, hv, hfk, hlk, hsk, hN80, hN147, hq38, hq39⟩
              cases hv
              have h138 := hfk.get h138 (by decide)
              have h84 := hfk.get h84 (by decide)
              have h126 := hfk.get h126 (by decide)
              have h127 := hfk.get h127 (by decide)
              have h114 := hfk.get h114 (by decide)
              have h85 := hfk.get h85 (by decide)
              have hfr := hfr.tr hfk (by decide)
              have hlen := hlk.trans hlen
              have hsl := hsk.trans hsl
              have h80 := hN80
              have h147 := hN147
              change ab_W _ _ _ G34 99 [some (vR 80), some (vz s), some (vz n), some (vz p), some (vz g15)] [] _
              refine ab_iload_n d_MO_writeTemplate_99 rfl ?_
              refine ab_aload_n d_MO_writeTemplate_100 rfl ?_
              refine ab_getf (fs := mof m_thrown m_taped m_length m_out m_wide m_gathered m_sets m_ranges m_nodes m_at m_flags m_fault m_place m_numbered m_depth m_value m_isNot m_least0 m_most0 m_slot m_work m_got m_rowMany m_charAt m_charWide m_trail m_isMatch m_matchGroups m_allFrom m_allBefore m_founds m_pieces k235 w216 t236) f_MO_603 d_MO_writeTemplate_101 h80.2.2 rfl ?_
              refine zz_iconst d_MO_writeTemplate_104 ?_
              refine zz_isub d_MO_writeTemplate_105 ?_
              refine zz_iadd d_MO_writeTemplate_106 ?_
              refine ab_istore_n d_MO_writeTemplate_107 (Nat.le_of_ble_eq_true rfl) (Nat.le_of_ble_eq_true rfl) rfl ?_
              change ab_W _ _ _ G34 108 [some (vR 80), some (vz s), some (vz n), some (vz (p + (w216 - 1))), some (vz g15)] [] _
              refine zz_iinc d_MO_writeTemplate_108 rfl (Nat.le_of_ble_eq_true rfl) (Nat.le_of_ble_eq_true rfl) rfl ?_
              change ab_W _ _ _ G34 111 [some (vR 80), some (vz s), some (vz n), some (vz ((p + (w216 - 1)) + 1)), some (vz g15)] [] _
              refine ab_goto (tgt := 2) d_MO_writeTemplate_111 (by decide) ?_
              refine ab_less (L' := [some (vR 80), some (vz s), some (vz n), some (vz ((p + (w216 - 1)) + 1)), none]) (fun i v h => by rcases i with _ | _ | _ | _ | _ | i <;> first | exact h | (simp at h)) ?_
              exact ih (p := ((p + (w216 - 1)) + 1)) (m_templateWide := w216) (m_writtenMany := k235) (m_tooMuch := t236) (WR := WR237) h80 h147 h138 h84 h126 h127 h114 h85 (by omega) (by rw [show ((p + (w216 - 1)) + 1) = p + w216 by omega]; exact hwv_ _ hq20) (by omega) (twI_m hx_ (by omega) hq21 (by omega) (by rw [itS_g (by omega) (by omega)]; exact hq39)) hfr hlen hsl (by omega) hk0
        · refine ab_aload_n d_MO_writeTemplate_25 rfl ?_
          refine ab_aload_n d_MO_writeTemplate_26 rfl ?_
          refine ab_getf (fs := mof m_thrown m_taped m_length m_out m_wide m_gathered m_sets m_ranges m_nodes m_at m_flags m_fault m_place m_numbered m_depth m_value m_isNot m_least0 m_most0 m_slot m_work m_got m_rowMany m_charAt m_charWide m_trail m_isMatch m_matchGroups m_allFrom m_allBefore m_founds m_pieces m_writtenMany m_templateWide m_tooMuch) f_MO_19 d_MO_writeTemplate_27 h80.2.2 rfl ?_
          refine ab_iload_n d_MO_writeTemplate_30 rfl ?_
          refine zz_iald d_MO_writeTemplate_31 h84 (by omega) ?_
          have hq40 := jtp p (by omega) (by omega)
          refine ab_callV (d' := d - 1) (as := [vz (A_tape p)]) (st := []) (r := _) (z_MO_write (o := o) (m_thrown := m_thrown) (m_taped := m_taped) (m_length := m_length) (m_out := m_out) (m_wide := m_wide) (m_gathered := m_gathered) (m_sets := m_sets) (m_ranges := m_ranges) (m_nodes := m_nodes) (m_at := m_at) (m_flags := m_flags) (m_fault := m_fault) (m_place := m_place) (m_numbered := m_numbered) (m_depth := m_depth) (m_value := m_value) (m_isNot := m_isNot) (m_least0 := m_least0) (m_most0 := m_most0) (m_slot := m_slot) (m_work := m_work) (m_got := m_got) (m_rowMany := m_rowMany) (m_charAt := m_charAt) (m_charWide := m_charWide) (m_trail := m_trail) (m_isMatch := m_isMatch) (m_matchGroups := m_matchGroups) (m_allFrom := m_allFrom) (m_allBefore := m_allBefore) (m_founds := m_founds) (m_pieces := m_pieces) (m_writtenMany := m_writtenMany) (m_templateWide := m_templateWide) (m_tooMuch := m_tooMuch) (WR := WR) (v := (A_tape p)) (O9 := (O9 ++ exS A_subject SP L_)) h80 h147 (by omega) (by omega) (by omega) hw_) (fun oc G2 h => by rcases h with ⟨_, _, _, h, _⟩ <;> exact ⟨_, h⟩) (by omega) m_MO_write ml_MO_600 im_MO_write se_MO_write c_MO h80.2.2 (Nat.le_of_ble_eq_true rfl) d_MO_writeTemplate_32 rfl ?_
          intro v G41 hq
          rcases hq with ⟨k242, t243, WR244, hv, hfk, hlk, hsk, hN80, hN147, hq45, hq46⟩
          cases hv
          have h138 := hfk.get h138 (by decide)
          have h84 := hfk.get h84 (by decide)
          have h126 := hfk.get h126 (by decide)
          have h127 := hfk.get h127 (by decide)
          have h114 := hfk.get h114 (by decide)
          have h85 := hfk.get h85 (by decide)
          have hfr := hfr.tr hfk (by decide)
          have hlen := hlk.trans hlen
          have hsl := hsk.trans hsl
          have h80 := hN80
          have h147 := hN147
          change ab_W _ _ _ G41 35 [some (vR 80), some (vz s), some (vz n), some (vz p), none] [] _
          refine ab_goto (tgt := 108) d_MO_writeTemplate_35 (by decide) ?_
          refine zz_iinc d_MO_writeTemplate_108 rfl (Nat.le_of_ble_eq_true rfl) (Nat.le_of_ble_eq_true rfl) rfl ?_
          change ab_W _ _ _ G41 111 [some (vR 80), some (vz s), some (vz n), some (vz (p + 1)), none] [] _
          refine ab_goto (tgt := 2) d_MO_writeTemplate_111 (by decide) ?_
          exact ih (p := (p + 1)) (m_templateWide := m_templateWide) (m_writtenMany := k242) (m_tooMuch := t243) (WR := WR244) h80 h147 h138 h84 h126 h127 h114 h85 (by omega) (((jtg.2 p jv).2 (by omega)).1 (by omega)) (by omega) (twI_m hx_ (by omega) (tmI_1 (by omega)) (by omega) (by rw [itS_b (by omega)]; exact hq46)) hfr hlen hsl (by omega) hk0
set_option maxRecDepth 100000 in
set_option maxHeartbeats 4000000 in
theorem z_MO_writeTemplate {X : ab_X} {d : Nat} {o : Nat → Nat} {G : ab_G} {m_thrown : Int} {m_taped : Int} {m_length : Int} {m_out : Int} {m_wide : Int} {m_gathered : Int} {m_sets : Int} {m_ranges : Int} {m_nodes : Int} {m_at : Int} {m_flags : Int} {m_fault : Int} {m_place : Int} {m_numbered : Int} {m_depth : Int} {m_value : Int} {m_isNot : Int} {m_least0 : Int} {m_most0 : Int} {m_slot : Int} {m_work : Int} {m_got : Int} {m_rowMany : Int} {m_charAt : Int} {m_charWide : Int} {m_trail : Int} {m_isMatch : Int} {m_matchGroups : Int} {m_allFrom : Int} {m_allBefore : Int} {m_founds : Int} {m_pieces : Int} {m_writtenMany : Int} {m_templateWide : Int} {m_tooMuch : Int} {A_tape : Int → Int} {A_nameSize : Int → Int} {A_nameOf : Int → Int} {A_groupsOf : Int → Int} {A_subject : Int → Int} {WR : Int → Int} {SP : Int → Int} {s : Int} {n : Int} {V_ : Int → Prop} {O9 : List Int} {L9 : List Int} (h80 : cc o G 80 280 (ab_ob 12 (mof m_thrown m_taped m_length m_out m_wide m_gathered m_sets m_ranges m_nodes m_at m_flags m_fault m_place m_numbered m_depth m_value m_isNot m_least0 m_most0 m_slot m_work m_got m_rowMany m_charAt m_charWide m_trail m_isMatch m_matchGroups m_allFrom m_allBefore m_founds m_pieces m_writtenMany m_templateWide m_tooMuch))) (h147 : cc o G 147 347 (za 6000 WR)) (h138 : cc o G 138 338 (za 20 SP)) (h84 : cc o G 84 284 (za 2000 A_tape)) (h126 : cc o G 126 326 (za 720 A_nameOf)) (h127 : cc o G 127 327 (za 60 A_nameSize)) (h114 : cc o G 114 314 (za 6 A_groupsOf)) (h85 : cc o G 85 285 (za 2000 A_subject)) (n18 : ab_n0 = 18) (cg : 0 ≤ s ∧ s ≤ 5 ∧ 0 ≤ n ∧ n ≤ 2000 ∧ 0 ≤ A_groupsOf s ∧ A_groupsOf s ≤ 9) (jtp : rgs A_tape 2000 0 255) (jns : rgs A_nameSize 60 0 12) (jnm : rgs A_nameOf 720 0 255) (jsp : rgs SP 20 (-1) 2000) (jtg : tgd A_tape A_nameSize A_nameOf A_groupsOf s n V_) (cwm : 0 ≤ m_writtenMany ∧ m_writtenMany ≤ 6000 ∧ 0 ≤ m_tooMuch ∧ m_tooMuch ≤ 1) (jnd : nmD (gNZ A_nameSize s) (gNM A_nameOf s) (A_groupsOf s)) (jtl : tpL A_tape n (A_groupsOf s) (gNZ A_nameSize s) (gNM A_nameOf s) L9) (jw : wmR WR m_writtenMany m_tooMuch O9) (hd : 4 ≤ d) : ab_F X d y_MO_writeTemplate (.code y_MO_writeTemplate b_MO_writeTemplate 5 none) [vR 80, vz s, vz n] G (fun oc G2 => ∃ k2 : Int, ∃ t2 : Int, ∃ WR2 : Int → Int, ∃ w2 : Int, oc = .returned none ∧ fx o o [280, 347] G G2 ∧ G2.length = G.length ∧ ab_slots G2 = ab_slots G ∧ cc o G2 80 280 (ab_ob 12 (mof m_thrown m_taped m_length m_out m_wide m_gathered m_sets m_ranges m_nodes m_at m_flags m_fault m_place m_numbered m_depth m_value m_isNot m_least0 m_most0 m_slot m_work m_got m_rowMany m_charAt m_charWide m_trail m_isMatch m_matchGroups m_allFrom m_allBefore m_founds m_pieces k2 w2 t2)) ∧ cc o G2 147 347 (za 6000 WR2) ∧ (0 ≤ k2 ∧ k2 ≤ 6000 ∧ 0 ≤ t2 ∧ t2 ≤ 1) ∧ (wmR WR2 k2 t2 (O9 ++ exS A_subject SP L9))) := by
  refine ab_F_of (by decide +kernel) (Nat.le_of_ble_eq_true rfl) ?_
  obtain ⟨Q, hQ⟩ : ∃ z : Outcome → ab_G → Prop, z = (fun oc G2 => ∃ k2 : Int, ∃ t2 : Int, ∃ WR2 : Int → Int, ∃ w2 : Int, oc = .returned none ∧ fx o o [280, 347] G G2 ∧ G2.length = G.length ∧ ab_slots G2 = ab_slots G ∧ cc o G2 80 280 (ab_ob 12 (mof m_thrown m_taped m_length m_out m_wide m_gathered m_sets m_ranges m_nodes m_at m_flags m_fault m_place m_numbered m_depth m_value m_isNot m_least0 m_most0 m_slot m_work m_got m_rowMany m_charAt m_charWide m_trail m_isMatch m_matchGroups m_allFrom m_allBefore m_founds m_pieces k2 w2 t2)) ∧ cc o G2 147 347 (za 6000 WR2) ∧ (0 ≤ k2 ∧ k2 ≤ 6000 ∧ 0 ≤ t2 ∧ t2 ≤ 1) ∧ (wmR WR2 k2 t2 (O9 ++ exS A_subject SP L9))) := ⟨_, rfl⟩
  rw [← hQ]
  change ab_W X (ab_pl y_MO_writeTemplate b_MO_writeTemplate 5 none) d G 0 [some (vR 80), some (vz s), some (vz n), none, none] [] Q
  have hfr : fx o o [280, 347] G G := fx.rf
  have hlen : G.length = G.length := rfl
  have hsl : ab_slots G = ab_slots G := rfl
  refine zz_iconst d_MO_writeTemplate_0 ?_
  refine ab_istore_n d_MO_writeTemplate_1 (Nat.le_of_ble_eq_true rfl) (Nat.le_of_ble_eq_true rfl) rfl ?_
  change ab_W _ _ _ G 2 [some (vR 80), some (vz s), some (vz n), some (vz 0), none] [] _
  refine y_MO_writeTemplate_2 (m_thrown := m_thrown) (m_taped := m_taped) (m_length := m_length) (m_out := m_out) (m_wide := m_wide) (m_gathered := m_gathered) (m_sets := m_sets) (m_ranges := m_ranges) (m_nodes := m_nodes) (m_at := m_at) (m_flags := m_flags) (m_fault := m_fault) (m_place := m_place) (m_numbered := m_numbered) (m_depth := m_depth) (m_value := m_value) (m_isNot := m_isNot) (m_least0 := m_least0) (m_most0 := m_most0) (m_slot := m_slot) (m_work := m_work) (m_got := m_got) (m_rowMany := m_rowMany) (m_charAt := m_charAt) (m_charWide := m_charWide) (m_trail := m_trail) (m_isMatch := m_isMatch) (m_matchGroups := m_matchGroups) (m_allFrom := m_allFrom) (m_allBefore := m_allBefore) (m_founds := m_founds) (m_pieces := m_pieces) (A_tape := A_tape) (A_nameSize := A_nameSize) (A_nameOf := A_nameOf) (A_groupsOf := A_groupsOf) (A_subject := A_subject) (SP := SP) (s := s) (n := n) (V_ := V_) (O9 := O9) (L9 := L9) (G0 := G) (p := 0) (m_templateWide := m_templateWide) (m_writtenMany := m_writtenMany) (m_tooMuch := m_tooMuch) (WR := WR) (by omega) (by omega) jtp jns jnm jsp jtg jnd jtl (by omega) (Int.toNat (5000 - 0) + 1) h80 h147 h138 h84 h126 h127 h114 h85 (by omega) jtg.1 (by omega) (twI_0 jw) fx.rf rfl rfl (by omega) (fun G1 k22 t23 WR24 w25 hN80 hN147 hq6 hq7 hfk hlk hsk => ?_)
  · have h138 := hfk.get h138 (by decide)
    have h84 := hfk.get h84 (by decide)
    have h126 := hfk.get h126 (by decide)
    have h127 := hfk.get h127 (by decide)
    have h114 := hfk.get h114 (by decide)
    have h85 := hfk.get h85 (by decide)
    have hfr := hfr.tr hfk (by decide)
    have hlen := hlk.trans hlen
    have hsl := hsk.trans hsl
    have h80 := hN80
    have h147 := hN147
    change ab_W _ _ _ G1 114 [none, none, none, none, none] [] _
    refine ab_vret rfl d_MO_writeTemplate_114 ?_
    rw [hQ]; exact ⟨_, _, _, _, rfl, hfr, hlen, hsl, h80, h147, (by omega), (by exact hq7)⟩
