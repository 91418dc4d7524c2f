set_option maxRecDepth 100000 in
set_option maxHeartbeats 4000000 in
theorem y_MO_lastEnd_149 {X : ab_X} {d : Nat} {Q : Outcome → ab_G → Prop} {o : Nat → Nat} {G0 : ab_G} {m_thrown : Int} {m_taped : Int} {m_length : Int} {m_out : Int} {m_wide : Int} {m_gathered : Int} {m_sets : Int} {m_ranges : Int} {m_nodes : Int} {m_at : Int} {m_flags : Int} {m_fault : Int} {m_place : Int} {m_numbered : Int} {m_depth : Int} {m_value : Int} {m_isNot : Int} {m_least0 : Int} {m_most0 : Int} {m_slot : Int} {m_work : Int} {m_got : Int} {m_rowMany : Int} {m_charAt : Int} {m_charWide : Int} {m_trail : Int} {m_isMatch : Int} {m_matchGroups : Int} {m_allFrom : Int} {m_allBefore : Int} {m_founds : Int} {m_pieces : Int} {m_writtenMany : Int} {m_templateWide : Int} {m_tooMuch : Int} {A_subject : Int → Int} {A_step : Int → Int} {A_next : Int → Int} {A_more : Int → Int} {A_classAt : Int → Int} {A_classMany : Int → Int} {A_classLow : Int → Int} {A_classHigh : Int → Int} {CO0 : Int → Int} {s : Int} {fm : Int} {n : Int} {ls : Int} {cl : Int} {far : Int} {p : Int} {z0 : Int} {en : Int} (n18 : ab_n0 = 18) (cle : 0 ≤ m_length ∧ m_length ≤ 2000) (cs : 0 ≤ s ∧ s ≤ 5 ∧ 0 ≤ n ∧ n ≤ 12500) (jsg : sgood A_step A_next A_more A_classAt A_classMany (12500 * s) n) (jst : rgs A_step 75000 0 6) (jsb : rgs A_subject 2000 0 255) (cp : 0 ≤ fm ∧ fm ≤ p ∧ p ≤ m_length ∧ p ≤ cl) (hd : 3 ≤ d) : ∀ (mz : Nat) {G : ab_G} {k : Int} {gr : Int} {CO : Int → Int}, (cc o G 80 280 (ab_ob 12 (mof m_thrown m_taped m_length m_out m_wide m_gathered m_sets m_ranges m_nodes m_at m_flags m_fault m_place m_numbered m_depth m_value m_isNot m_least0 m_most0 m_slot m_work m_got m_rowMany m_charAt m_charWide m_trail m_isMatch m_matchGroups m_allFrom m_allBefore m_founds m_pieces m_writtenMany m_templateWide m_tooMuch))) → (cc o G 136 336 (zl 392196 CO)) → (cc o G 118 318 (za 75000 A_step)) → (cc o G 119 319 (za 75000 A_next)) → (cc o G 120 320 (za 75000 A_more)) → (cc o G 85 285 (za 2000 A_subject)) → (0 ≤ k ∧ k ≤ n ∧ 0 ≤ gr ∧ gr ≤ 1 ∧ bz (fun i => nbit CO p i) n + gr ≤ z0) → (cld A_step A_next A_more A_classAt A_classMany A_classLow A_classHigh A_subject CO m_length (12500 * s) n fm en cl) → (csm CO0 CO p) → (gr = 0 → ccl A_step A_next A_more A_subject CO m_length (12500 * s) p k) → (fx o o [336] G0 G) → (G.length = G0.length) → (ab_slots G = ab_slots G0) → (Int.toNat (n - k) < mz) → (∀ (G2 : ab_G) (g2 : Int) (C2 : Int → Int), (cc o G2 136 336 (zl 392196 C2)) → (0 ≤ g2 ∧ g2 ≤ 1 ∧ bz (fun i => nbit C2 p i) n + g2 ≤ z0) → (cld A_step A_next A_more A_classAt A_classMany A_classLow A_classHigh A_subject C2 m_length (12500 * s) n fm en cl) → (csm CO0 C2 p) → (g2 = 0 → ccl A_step A_next A_more A_subject C2 m_length (12500 * s) p n) → (fx o o [336] G0 G2) → (G2.length = G0.length) → (ab_slots G2 = ab_slots G0) → ab_W X (ab_pl y_MO_lastEnd b_MO_lastEnd 13 (some (.int))) d G2 332 [some (vR 80), some (vz s), some (vz fm), some (vz n), some (vz ls), some (vz cl), some (vz far), some (vz p), some (vz g2), none, none, none, none] [] Q) → ab_W X (ab_pl y_MO_lastEnd b_MO_lastEnd 13 (some (.int))) d G 149 [some (vR 80), some (vz s), some (vz fm), some (vz n), some (vz ls), some (vz cl), some (vz far), some (vz p), some (vz gr), some (vz k), none, none, none] [] Q := by
  intro mz
  induction mz with
  | zero => intro G k gr CO h80 h136 h118 h119 h120 h85 ci jl jsm jq hfr hlen hsl hm hk0; exact absurd hm (Nat.not_lt_zero _)
  | succ mz ih =>
    intro G k gr CO h80 h136 h118 h119 h120 h85 ci jl jsm jq hfr hlen hsl hm hk0
    refine ab_iload d_MO_lastEnd_149 rfl ?_
    refine ab_iload_n d_MO_lastEnd_151 rfl ?_
    refine zz_icmp_ge (tgt := 332) d_MO_lastEnd_152 (by decide) (by omega) (by omega) (fun c1 => ?_) (fun c1 => ?_)
    · refine ab_less (L' := [some (vR 80), some (vz s), some (vz fm), some (vz n), some (vz ls), some (vz cl), some (vz far), some (vz p), some (vz gr), none, none, none, none]) (fun i v h => by rcases i with _ | _ | _ | _ | _ | _ | _ | _ | _ | _ | _ | _ | _ | i <;> first | exact h | (simp at h)) ?_
      exact hk0 _ _ _ h136 (by omega) (by exact jl) (by exact jsm) (by exact (show k = n by omega) ▸ jq) hfr hlen hsl
    · have hsg_ := jsg k (by omega) (by omega)
      refine zz_sipush d_MO_lastEnd_155 (by decide) ?_
      refine ab_iload_n d_MO_lastEnd_158 rfl ?_
      refine zz_imul d_MO_lastEnd_159 ?_
      refine ab_iload d_MO_lastEnd_160 rfl ?_
      refine zz_iadd d_MO_lastEnd_162 ?_
      refine ab_istore d_MO_lastEnd_163 (Nat.le_of_ble_eq_true rfl) (Nat.le_of_ble_eq_true rfl) rfl ?_
      change ab_W _ _ _ G 165 [some (vR 80), some (vz s), some (vz fm), some (vz n), some (vz ls), some (vz cl), some (vz far), some (vz p), some (vz gr), some (vz k), some (vz ((12500 * s) + k)), none, none] [] _
      refine ab_aload_n d_MO_lastEnd_165 rfl ?_
      refine ab_getf (fs := mof m_thrown m_taped m_length m_out m_wide m_gathered m_sets m_ranges m_nodes m_at m_flags m_fault m_place m_numbered m_depth m_value m_isNot m_least0 m_most0 m_slot m_work m_got m_rowMany m_charAt m_charWide m_trail m_isMatch m_matchGroups m_allFrom m_allBefore m_founds m_pieces m_writtenMany m_templateWide m_tooMuch) f_MO_128 d_MO_lastEnd_166 h80.2.2 rfl ?_
      refine ab_iload d_MO_lastEnd_169 rfl ?_
      refine zz_iald d_MO_lastEnd_171 h118 (by omega) ?_
      have hq2 := jst ((12500 * s) + k) (by omega) (by omega)
      refine ab_istore d_MO_lastEnd_172 (Nat.le_of_ble_eq_true rfl) (Nat.le_of_ble_eq_true rfl) rfl ?_
      change ab_W _ _ _ G 174 [some (vR 80), some (vz s), some (vz fm), some (vz n), some (vz ls), some (vz cl), some (vz far), some (vz p), some (vz gr), some (vz k), some (vz ((12500 * s) + k)), some (vz (A_step ((12500 * s) + k))), none] [] _
      refine ab_aload_n d_MO_lastEnd_174 rfl ?_
      refine ab_getf (fs := mof m_thrown m_taped m_length m_out m_wide m_gathered m_sets m_ranges m_nodes m_at m_flags m_fault m_place m_numbered m_depth m_value m_isNot m_least0 m_most0 m_slot m_work m_got m_rowMany m_charAt m_charWide m_trail m_isMatch m_matchGroups m_allFrom m_allBefore m_founds m_pieces m_writtenMany m_templateWide m_tooMuch) f_MO_184 d_MO_lastEnd_175 h80.2.2 rfl ?_
      refine ab_iload d_MO_lastEnd_178 rfl ?_
      refine ab_iload d_MO_lastEnd_180 rfl ?_
      refine ab_callS (d' := d - 1) (as := [vR 136, vz p, vz k]) (st := []) (z_MO_bit (o := o) (a := 136) (l := 336) (A := CO) (p := p) (k := k) h136 (by omega)) (fun oc G2 h => by rcases h with ⟨h, _⟩ | ⟨h, _⟩ <;> exact ⟨_, h⟩) (by omega) m_MO_bit ml_MO_528 st_MO_bit (Nat.le_of_ble_eq_true rfl) d_MO_lastEnd_182 rfl ?_
      intro v G3 hq
      rcases hq with ⟨hv, hGe, hq4⟩ | ⟨hv, hGe, hq5⟩
      · cases hv
        rw [hGe]
        change ab_W _ _ _ G 185 [some (vR 80), some (vz s), some (vz fm), some (vz n), some (vz ls), some (vz cl), some (vz far), some (vz p), some (vz gr), some (vz k), some (vz ((12500 * s) + k)), some (vz (A_step ((12500 * s) + k))), none] [vz 1] _
        refine zz_if_eq (tgt := 326) d_MO_lastEnd_185 (by decide) (by decide) (fun c6 => absurd c6 (by decide)) (fun c6 => ?_)
        refine ab_iload d_MO_lastEnd_188 rfl ?_
        refine zz_iconst d_MO_lastEnd_190 ?_
        refine zz_icmp_lt (tgt := 326) d_MO_lastEnd_191 (by decide) (by omega) (by decide) (fun c7 => ?_) (fun c7 => ?_)
        · refine zz_iinc d_MO_lastEnd_326 rfl (Nat.le_of_ble_eq_true rfl) (Nat.le_of_ble_eq_true rfl) rfl ?_
          change ab_W _ _ _ G 329 [some (vR 80), some (vz s), some (vz fm), some (vz n), some (vz ls), some (vz cl), some (vz far), some (vz p), some (vz gr), some (vz (k + 1)), some (vz ((12500 * s) + k)), some (vz (A_step ((12500 * s) + k))), none] [] _
          refine ab_goto (tgt := 149) d_MO_lastEnd_329 (by decide) ?_
          refine ab_less (L' := [some (vR 80), some (vz s), some (vz fm), some (vz n), some (vz ls), some (vz cl), some (vz far), some (vz p), some (vz gr), some (vz (k + 1)), none, none, none]) (fun i v h => by rcases i with _ | _ | _ | _ | _ | _ | _ | _ | _ | _ | _ | _ | _ | i <;> first | exact h | (simp at h)) ?_
          exact ih (k := (k + 1)) (gr := gr) (CO := CO) h80 h136 h118 h119 h120 h85 (by omega) jl jsm (fun h => ccl_s (jq h) (fun _ => ⟨(fun t => absurd t (by omega)), (fun t => absurd t (by omega)), (fun t u => absurd t (by omega))⟩)) hfr hlen hsl (by omega) hk0
        · refine ab_iload d_MO_lastEnd_194 rfl ?_
          refine zz_bipush d_MO_lastEnd_196 (by decide) ?_
          refine zz_icmp_eq (tgt := 326) d_MO_lastEnd_198 (by decide) (by omega) (by decide) (fun c8 => ?_) (fun c8 => ?_)
          · refine zz_iinc d_MO_lastEnd_326 rfl (Nat.le_of_ble_eq_true rfl) (Nat.le_of_ble_eq_true rfl) rfl ?_
            change ab_W _ _ _ G 329 [some (vR 80), some (vz s), some (vz fm), some (vz n), some (vz ls), some (vz cl), some (vz far), some (vz p), some (vz gr), some (vz (k + 1)), some (vz ((12500 * s) + k)), some (vz (A_step ((12500 * s) + k))), none] [] _
            refine ab_goto (tgt := 149) d_MO_lastEnd_329 (by decide) ?_
            refine ab_less (L' := [some (vR 80), some (vz s), some (vz fm), some (vz n), some (vz ls), some (vz cl), some (vz far), some (vz p), some (vz gr), some (vz (k + 1)), none, none, none]) (fun i v h => by rcases i with _ | _ | _ | _ | _ | _ | _ | _ | _ | _ | _ | _ | _ | i <;> first | exact h | (simp at h)) ?_
            exact ih (k := (k + 1)) (gr := gr) (CO := CO) h80 h136 h118 h119 h120 h85 (by omega) jl jsm (fun h => ccl_s (jq h) (fun _ => ⟨(fun t => absurd t (by omega)), (fun t => absurd t (by omega)), (fun t u => absurd t (by omega))⟩)) hfr hlen hsl (by omega) hk0
          · refine ab_iload d_MO_lastEnd_201 rfl ?_
            refine zz_iconst d_MO_lastEnd_203 ?_
            refine zz_icmp_ne (tgt := 226) d_MO_lastEnd_204 (by decide) (by omega) (by decide) (fun c9 => ?_) (fun c9 => ?_)
            · have hnx_ := hsg_.2.1 (by omega) (by omega)
              refine ab_aload_n d_MO_lastEnd_226 rfl ?_
              refine ab_getf (fs := mof m_thrown m_taped m_length m_out m_wide m_gathered m_sets m_ranges m_nodes m_at m_flags m_fault m_place m_numbered m_depth m_value m_isNot m_least0 m_most0 m_slot m_work m_got m_rowMany m_charAt m_charWide m_trail m_isMatch m_matchGroups m_allFrom m_allBefore m_founds m_pieces m_writtenMany m_templateWide m_tooMuch) f_MO_184 d_MO_lastEnd_227 h80.2.2 rfl ?_
              refine ab_iload d_MO_lastEnd_230 rfl ?_
              refine ab_aload_n d_MO_lastEnd_232 rfl ?_
              refine ab_getf (fs := mof m_thrown m_taped m_length m_out m_wide m_gathered m_sets m_ranges m_nodes m_at m_flags m_fault m_place m_numbered m_depth m_value m_isNot m_least0 m_most0 m_slot m_work m_got m_rowMany m_charAt m_charWide m_trail m_isMatch m_matchGroups m_allFrom m_allBefore m_founds m_pieces m_writtenMany m_templateWide m_tooMuch) f_MO_131 d_MO_lastEnd_233 h80.2.2 rfl ?_
              refine ab_iload d_MO_lastEnd_236 rfl ?_
              refine zz_iald d_MO_lastEnd_238 h119 (by omega) ?_
              refine ab_callS (d' := d - 1) (as := [vR 136, vz p, vz (A_next ((12500 * s) + k))]) (st := []) (z_MO_bit (o := o) (a := 136) (l := 336) (A := CO) (p := p) (k := (A_next ((12500 * s) + k))) h136 (by omega)) (fun oc G2 h => by rcases h with ⟨h, _⟩ | ⟨h, _⟩ <;> exact ⟨_, h⟩) (by omega) m_MO_bit ml_MO_528 st_MO_bit (Nat.le_of_ble_eq_true rfl) d_MO_lastEnd_239 rfl ?_
              intro v G10 hq
              rcases hq with ⟨hv, hGe, hq11⟩ | ⟨hv, hGe, hq12⟩
              · cases hv
                rw [hGe]
                change ab_W _ _ _ G 242 [some (vR 80), some (vz s), some (vz fm), some (vz n), some (vz ls), some (vz cl), some (vz far), some (vz p), some (vz gr), some (vz k), some (vz ((12500 * s) + k)), some (vz (A_step ((12500 * s) + k))), none] [vz 1] _
                refine zz_if_eq (tgt := 274) d_MO_lastEnd_242 (by decide) (by decide) (fun c13 => absurd c13 (by decide)) (fun c13 => ?_)
                refine ab_iload d_MO_lastEnd_245 rfl ?_
                refine zz_iconst d_MO_lastEnd_247 ?_
                refine zz_icmp_ne (tgt := 270) d_MO_lastEnd_248 (by decide) (by omega) (by decide) (fun c14 => ?_) (fun c14 => ?_)
                · refine zz_iconst d_MO_lastEnd_270 ?_
                  refine ab_goto (tgt := 275) d_MO_lastEnd_271 (by decide) ?_
                  refine ab_istore d_MO_lastEnd_275 (Nat.le_of_ble_eq_true rfl) (Nat.le_of_ble_eq_true rfl) rfl ?_
                  change ab_W _ _ _ G 277 [some (vR 80), some (vz s), some (vz fm), some (vz n), some (vz ls), some (vz cl), some (vz far), some (vz p), some (vz gr), some (vz k), some (vz ((12500 * s) + k)), some (vz (A_step ((12500 * s) + k))), some (vz 1)] [] _
                  refine ab_iload d_MO_lastEnd_277 rfl ?_
                  refine zz_if_eq (tgt := 285) d_MO_lastEnd_279 (by decide) (by decide) (fun c15 => absurd c15 (by decide)) (fun c15 => ?_)
                  refine ab_goto (tgt := 326) d_MO_lastEnd_282 (by decide) ?_
                  refine zz_iinc d_MO_lastEnd_326 rfl (Nat.le_of_ble_eq_true rfl) (Nat.le_of_ble_eq_true rfl) rfl ?_
                  change ab_W _ _ _ G 329 [some (vR 80), some (vz s), some (vz fm), some (vz n), some (vz ls), some (vz cl), some (vz far), some (vz p), some (vz gr), some (vz (k + 1)), some (vz ((12500 * s) + k)), some (vz (A_step ((12500 * s) + k))), some (vz 1)] [] _
                  refine ab_goto (tgt := 149) d_MO_lastEnd_329 (by decide) ?_
                  refine ab_less (L' := [some (vR 80), some (vz s), some (vz fm), some (vz n), some (vz ls), some (vz cl), some (vz far), some (vz p), some (vz gr), some (vz (k + 1)), none, none, none]) (fun i v h => by rcases i with _ | _ | _ | _ | _ | _ | _ | _ | _ | _ | _ | _ | _ | i <;> first | exact h | (simp at h)) ?_
                  exact ih (k := (k + 1)) (gr := gr) (CO := CO) h80 h136 h118 h119 h120 h85 (by omega) jl jsm (fun h => ccl_s (jq h) (fun _ => ⟨(fun t => absurd t (by omega)), (fun t => hq11), (fun t u => hq11)⟩)) hfr hlen hsl (by omega) hk0
                · have hmr_ := hsg_.2.2.1 (by omega)
                  refine ab_aload_n d_MO_lastEnd_251 rfl ?_
                  refine ab_getf (fs := mof m_thrown m_taped m_length m_out m_wide m_gathered m_sets m_ranges m_nodes m_at m_flags m_fault m_place m_numbered m_depth m_value m_isNot m_least0 m_most0 m_slot m_work m_got m_rowMany m_charAt m_charWide m_trail m_isMatch m_matchGroups m_allFrom m_allBefore m_founds m_pieces m_writtenMany m_templateWide m_tooMuch) f_MO_184 d_MO_lastEnd_252 h80.2.2 rfl ?_
                  refine ab_iload d_MO_lastEnd_255 rfl ?_
                  refine ab_aload_n d_MO_lastEnd_257 rfl ?_
                  refine ab_getf (fs := mof m_thrown m_taped m_length m_out m_wide m_gathered m_sets m_ranges m_nodes m_at m_flags m_fault m_place m_numbered m_depth m_value m_isNot m_least0 m_most0 m_slot m_work m_got m_rowMany m_charAt m_charWide m_trail m_isMatch m_matchGroups m_allFrom m_allBefore m_founds m_pieces m_writtenMany m_templateWide m_tooMuch) f_MO_134 d_MO_lastEnd_258 h80.2.2 rfl ?_
                  refine ab_iload d_MO_lastEnd_261 rfl ?_
                  refine zz_iald d_MO_lastEnd_263 h120 (by omega) ?_
                  refine ab_callS (d' := d - 1) (as := [vR 136, vz p, vz (A_more ((12500 * s) + k))]) (st := []) (z_MO_bit (o := o) (a := 136) (l := 336) (A := CO) (p := p) (k := (A_more ((12500 * s) + k))) h136 (by omega)) (fun oc G2 h => by rcases h with ⟨h, _⟩ | ⟨h, _⟩ <;> exact ⟨_, h⟩) (by omega) m_MO_bit ml_MO_528 st_MO_bit (Nat.le_of_ble_eq_true rfl) d_MO_lastEnd_264 rfl ?_
                  intro v G16 hq
                  rcases hq with ⟨hv, hGe, hq17⟩ | ⟨hv, hGe, hq18⟩
                  · cases hv
                    rw [hGe]
                    change ab_W _ _ _ G 267 [some (vR 80), some (vz s), some (vz fm), some (vz n), some (vz ls), some (vz cl), some (vz far), some (vz p), some (vz gr), some (vz k), some (vz ((12500 * s) + k)), some (vz (A_step ((12500 * s) + k))), none] [vz 1] _
                    refine zz_if_eq (tgt := 274) d_MO_lastEnd_267 (by decide) (by decide) (fun c19 => absurd c19 (by decide)) (fun c19 => ?_)
                    refine zz_iconst d_MO_lastEnd_270 ?_
                    refine ab_goto (tgt := 275) d_MO_lastEnd_271 (by decide) ?_
                    refine ab_istore d_MO_lastEnd_275 (Nat.le_of_ble_eq_true rfl) (Nat.le_of_ble_eq_true rfl) rfl ?_
                    change ab_W _ _ _ G 277 [some (vR 80), some (vz s), some (vz fm), some (vz n), some (vz ls), some (vz cl), some (vz far), some (vz p), some (vz gr), some (vz k), some (vz ((12500 * s) + k)), some (vz (A_step ((12500 * s) + k))), some (vz 1)] [] _
                    refine ab_iload d_MO_lastEnd_277 rfl ?_
                    refine zz_if_eq (tgt := 285) d_MO_lastEnd_279 (by decide) (by decide) (fun c20 => absurd c20 (by decide)) (fun c20 => ?_)
                    refine ab_goto (tgt := 326) d_MO_lastEnd_282 (by decide) ?_
                    refine zz_iinc d_MO_lastEnd_326 rfl (Nat.le_of_ble_eq_true rfl) (Nat.le_of_ble_eq_true rfl) rfl ?_
                    change ab_W _ _ _ G 329 [some (vR 80), some (vz s), some (vz fm), some (vz n), some (vz ls), some (vz cl), some (vz far), some (vz p), some (vz gr), some (vz (k + 1)), some (vz ((12500 * s) + k)), some (vz (A_step ((12500 * s) + k))), some (vz 1)] [] _
                    refine ab_goto (tgt := 149) d_MO_lastEnd_329 (by decide) ?_
                    refine ab_less (L' := [some (vR 80), some (vz s), some (vz fm), some (vz n), some (vz ls), some (vz cl), some (vz far), some (vz p), some (vz gr), some (vz (k + 1)), none, none, none]) (fun i v h => by rcases i with _ | _ | _ | _ | _ | _ | _ | _ | _ | _ | _ | _ | _ | i <;> first | exact h | (simp at h)) ?_
                    exact ih (k := (k + 1)) (gr := gr) (CO := CO) h80 h136 h118 h119 h120 h85 (by omega) jl jsm (fun h => ccl_s (jq h) (fun _ => ⟨(fun t => ⟨hq11, hq17⟩), (fun t => hq11), (fun t u => hq11)⟩)) hfr hlen hsl (by omega) hk0
                  · cases hv
                    rw [hGe]
                    change ab_W _ _ _ G 267 [some (vR 80), some (vz s), some (vz fm), some (vz n), some (vz ls), some (vz cl), some (vz far), some (vz p), some (vz gr), some (vz k), some (vz ((12500 * s) + k)), some (vz (A_step ((12500 * s) + k))), none] [vz 0] _
                    refine zz_if_eq (tgt := 274) d_MO_lastEnd_267 (by decide) (by decide) (fun c21 => ?_) (fun c21 => absurd c21 (by decide))
                    refine zz_iconst d_MO_lastEnd_274 ?_
                    refine ab_istore d_MO_lastEnd_275 (Nat.le_of_ble_eq_true rfl) (Nat.le_of_ble_eq_true rfl) rfl ?_
                    change ab_W _ _ _ G 277 [some (vR 80), some (vz s), some (vz fm), some (vz n), some (vz ls), some (vz cl), some (vz far), some (vz p), some (vz gr), some (vz k), some (vz ((12500 * s) + k)), some (vz (A_step ((12500 * s) + k))), some (vz 0)] [] _
                    refine ab_iload d_MO_lastEnd_277 rfl ?_
                    refine zz_if_eq (tgt := 285) d_MO_lastEnd_279 (by decide) (by decide) (fun c22 => ?_) (fun c22 => absurd c22 (by decide))
                    refine ab_aload_n d_MO_lastEnd_285 rfl ?_
                    refine ab_getf (fs := mof m_thrown m_taped m_length m_out m_wide m_gathered m_sets m_ranges m_nodes m_at m_flags m_fault m_place m_numbered m_depth m_value m_isNot m_least0 m_most0 m_slot m_work m_got m_rowMany m_charAt m_charWide m_trail m_isMatch m_matchGroups m_allFrom m_allBefore m_founds m_pieces m_writtenMany m_templateWide m_tooMuch) f_MO_184 d_MO_lastEnd_286 h80.2.2 rfl ?_
                    refine ab_iload d_MO_lastEnd_289 rfl ?_
                    refine ab_aload_n d_MO_lastEnd_291 rfl ?_
                    refine ab_getf (fs := mof m_thrown m_taped m_length m_out m_wide m_gathered m_sets m_ranges m_nodes m_at m_flags m_fault m_place m_numbered m_depth m_value m_isNot m_least0 m_most0 m_slot m_work m_got m_rowMany m_charAt m_charWide m_trail m_isMatch m_matchGroups m_allFrom m_allBefore m_founds m_pieces m_writtenMany m_templateWide m_tooMuch) f_MO_131 d_MO_lastEnd_292 h80.2.2 rfl ?_
                    refine ab_iload d_MO_lastEnd_295 rfl ?_
                    refine zz_iald d_MO_lastEnd_297 h119 (by omega) ?_
                    refine ab_callS (d' := d - 1) (as := [vR 136, vz p, vz (A_next ((12500 * s) + k))]) (st := []) (z_MO_mark (o := o) (a := 136) (l := 336) (A := CO) (p := p) (k := (A_next ((12500 * s) + k))) h136 (by omega) (by have h18 : ab_n0 = 18 := rfl; omega)) (fun oc G2 h => by rcases h with ⟨_, h, _⟩ <;> exact ⟨_, h⟩) (by omega) m_MO_mark ml_MO_536 st_MO_mark (Nat.le_of_ble_eq_true rfl) d_MO_lastEnd_298 rfl ?_
                    intro v G23 hq
                    rcases hq with ⟨B24, hv, hfk, hlk, hsk, hN136, hq25⟩
                    cases hv
                    have h80 := hfk.get h80 (by decide)
                    have h118 := hfk.get h118 (by decide)
                    have h119 := hfk.get h119 (by decide)
                    have h120 := hfk.get h120 (by decide)
                    have h85 := hfk.get h85 (by decide)
                    have hfr := hfr.tr hfk (by decide)
                    have hlen := hlk.trans hlen
                    have hsl := hsk.trans hsl
                    have h136 := hN136
                    change ab_W _ _ _ G23 301 [some (vR 80), some (vz s), some (vz fm), some (vz n), some (vz ls), some (vz cl), some (vz far), some (vz p), some (vz gr), some (vz k), some (vz ((12500 * s) + k)), some (vz (A_step ((12500 * s) + k))), some (vz 0)] [] _
                    refine ab_iload d_MO_lastEnd_301 rfl ?_
                    refine zz_iconst d_MO_lastEnd_303 ?_
                    refine zz_icmp_ne (tgt := 323) d_MO_lastEnd_304 (by decide) (by omega) (by decide) (fun c26 => absurd c26 (by omega)) (fun c26 => ?_)
                    have hmr_ := hsg_.2.2.1 (by omega)
                    refine ab_aload_n d_MO_lastEnd_307 rfl ?_
                    refine ab_getf (fs := mof m_thrown m_taped m_length m_out m_wide m_gathered m_sets m_ranges m_nodes m_at m_flags m_fault m_place m_numbered m_depth m_value m_isNot m_least0 m_most0 m_slot m_work m_got m_rowMany m_charAt m_charWide m_trail m_isMatch m_matchGroups m_allFrom m_allBefore m_founds m_pieces m_writtenMany m_templateWide m_tooMuch) f_MO_184 d_MO_lastEnd_308 h80.2.2 rfl ?_
                    refine ab_iload d_MO_lastEnd_311 rfl ?_
                    refine ab_aload_n d_MO_lastEnd_313 rfl ?_
                    refine ab_getf (fs := mof m_thrown m_taped m_length m_out m_wide m_gathered m_sets m_ranges m_nodes m_at m_flags m_fault m_place m_numbered m_depth m_value m_isNot m_least0 m_most0 m_slot m_work m_got m_rowMany m_charAt m_charWide m_trail m_isMatch m_matchGroups m_allFrom m_allBefore m_founds m_pieces m_writtenMany m_templateWide m_tooMuch) f_MO_134 d_MO_lastEnd_314 h80.2.2 rfl ?_
                    refine ab_iload d_MO_lastEnd_317 rfl ?_
                    refine zz_iald d_MO_lastEnd_319 h120 (by omega) ?_
                    refine ab_callS (d' := d - 1) (as := [vR 136, vz p, vz (A_more ((12500 * s) + k))]) (st := []) (z_MO_mark (o := o) (a := 136) (l := 336) (A := B24) (p := p) (k := (A_more ((12500 * s) + k))) h136 (by omega) (by have h18 : ab_n0 = 18 := rfl; omega)) (fun oc G2 h => by rcases h with ⟨_, h, _⟩ <;> exact ⟨_, h⟩) (by omega) m_MO_mark ml_MO_536 st_MO_mark (Nat.le_of_ble_eq_true rfl) d_MO_lastEnd_320 rfl ?_
                    intro v G27 hq
                    rcases hq with ⟨B28, hv, hfk, hlk, hsk, hN136, hq29⟩
                    cases hv
                    have h80 := hfk.get h80 (by decide)
                    have h118 := hfk.get h118 (by decide)
                    have h119 := hfk.get h119 (by decide)
                    have h120 := hfk.get h120 (by decide)
                    have h85 := hfk.get h85 (by decide)
                    have hfr := hfr.tr hfk (by decide)
                    have hlen := hlk.trans hlen
                    have hsl := hsk.trans hsl
                    have h136 := hN136
                    change ab_W _ _ _ G27 323 [some (vR 80), some (vz s), some (vz fm), some (vz n), some (vz ls), some (vz cl), some (vz far), some (vz p), some (vz gr), some (vz k), some (vz ((12500 * s) + k)), some (vz (A_step ((12500 * s) + k))), some (vz 0)] [] _
                    have hbz_ : bz (fun i => nbit B28 p i) n ≤ bz (fun i => nbit CO p i) n - 1 := bz_lt (k := A_more ((12500 * s) + k)) hq18 ((hq29 p (A_more ((12500 * s) + k)) (by omega) (by omega)).mpr (Or.inr ⟨rfl, rfl⟩)) (by omega) (fun i a c z => (hq29 p i a (by omega)).mpr (Or.inl ((hq25 p i a (by omega)).mpr (Or.inl z))))
                    refine zz_iconst d_MO_lastEnd_323 ?_
                    refine ab_istore d_MO_lastEnd_324 (Nat.le_of_ble_eq_true rfl) (Nat.le_of_ble_eq_true rfl) rfl ?_
                    change ab_W _ _ _ G27 326 [some (vR 80), some (vz s), some (vz fm), some (vz n), some (vz ls), some (vz cl), some (vz far), some (vz p), some (vz 1), some (vz k), some (vz ((12500 * s) + k)), some (vz (A_step ((12500 * s) + k))), some (vz 0)] [] _
                    refine zz_iinc d_MO_lastEnd_326 rfl (Nat.le_of_ble_eq_true rfl) (Nat.le_of_ble_eq_true rfl) rfl ?_
                    change ab_W _ _ _ G27 329 [some (vR 80), some (vz s), some (vz fm), some (vz n), some (vz ls), some (vz cl), some (vz far), some (vz p), some (vz 1), some (vz (k + 1)), some (vz ((12500 * s) + k)), some (vz (A_step ((12500 * s) + k))), some (vz 0)] [] _
                    refine ab_goto (tgt := 149) d_MO_lastEnd_329 (by decide) ?_
                    refine ab_less (L' := [some (vR 80), some (vz s), some (vz fm), some (vz n), some (vz ls), some (vz cl), some (vz far), some (vz p), some (vz 1), some (vz (k + 1)), none, none, none]) (fun i v h => by rcases i with _ | _ | _ | _ | _ | _ | _ | _ | _ | _ | _ | _ | _ | i <;> first | exact h | (simp at h)) ?_
                    exact ih (k := (k + 1)) (gr := 1) (CO := B28) h80 h136 h118 h119 h120 h85 (by omega) (cld_mark (cld_mark jl (by omega) (lead_eps (jl p k (by omega) (by omega) (by omega) (by omega) hq4).2 (by omega) (by omega) (by first | exact Or.inl ⟨by omega, Or.inl rfl⟩ | exact Or.inl ⟨by omega, Or.inr rfl⟩ | exact Or.inr (Or.inl ⟨by omega, rfl⟩))) hq25) (by omega) (lead_eps (jl p k (by omega) (by omega) (by omega) (by omega) hq4).2 (by omega) (by omega) (by first | exact Or.inl ⟨by omega, Or.inl rfl⟩ | exact Or.inl ⟨by omega, Or.inr rfl⟩ | exact Or.inr (Or.inl ⟨by omega, rfl⟩))) hq29) (csm_mark (csm_mark jsm hq25) hq29) (fun h => absurd h (by decide)) hfr hlen hsl (by omega) hk0
              · cases hv
                rw [hGe]
                change ab_W _ _ _ G 242 [some (vR 80), some (vz s), some (vz fm), some (vz n), some (vz ls), some (vz cl), some (vz far), some (vz p), some (vz gr), some (vz k), some (vz ((12500 * s) + k)), some (vz (A_step ((12500 * s) + k))), none] [vz 0] _
                refine zz_if_eq (tgt := 274) d_MO_lastEnd_242 (by decide) (by decide) (fun c30 => ?_) (fun c30 => absurd c30 (by decide))
                refine zz_iconst d_MO_lastEnd_274 ?_
                refine ab_istore d_MO_lastEnd_275 (Nat.le_of_ble_eq_true rfl) (Nat.le_of_ble_eq_true rfl) rfl ?_
                change ab_W _ _ _ G 277 [some (vR 80), some (vz s), some (vz fm), some (vz n), some (vz ls), some (vz cl), some (vz far), some (vz p), some (vz gr), some (vz k), some (vz ((12500 * s) + k)), some (vz (A_step ((12500 * s) + k))), some (vz 0)] [] _
                refine ab_iload d_MO_lastEnd_277 rfl ?_
                refine zz_if_eq (tgt := 285) d_MO_lastEnd_279 (by decide) (by decide) (fun c31 => ?_) (fun c31 => absurd c31 (by decide))
                refine ab_aload_n d_MO_lastEnd_285 rfl ?_
                refine ab_getf (fs := mof m_thrown m_taped m_length m_out m_wide m_gathered m_sets m_ranges m_nodes m_at m_flags m_fault m_place m_numbered m_depth m_value m_isNot m_least0 m_most0 m_slot m_work m_got m_rowMany m_charAt m_charWide m_trail m_isMatch m_matchGroups m_allFrom m_allBefore m_founds m_pieces m_writtenMany m_templateWide m_tooMuch) f_MO_184 d_MO_lastEnd_286 h80.2.2 rfl ?_
                refine ab_iload d_MO_lastEnd_289 rfl ?_
                refine ab_aload_n d_MO_lastEnd_291 rfl ?_
                refine ab_getf (fs := mof m_thrown m_taped m_length m_out m_wide m_gathered m_sets m_ranges m_nodes m_at m_flags m_fault m_place m_numbered m_depth m_value m_isNot m_least0 m_most0 m_slot m_work m_got m_rowMany m_charAt m_charWide m_trail m_isMatch m_matchGroups m_allFrom m_allBefore m_founds m_pieces m_writtenMany m_templateWide m_tooMuch) f_MO_131 d_MO_lastEnd_292 h80.2.2 rfl ?_
                refine ab_iload d_MO_lastEnd_295 rfl ?_
                refine zz_iald d_MO_lastEnd_297 h119 (by omega) ?_
                refine ab_callS (d' := d - 1) (as := [vR 136, vz p, vz (A_next ((12500 * s) + k))]) (st := []) (z_MO_mark (o := o) (a := 136) (l := 336) (A := CO) (p := p) (k := (A_next ((12500 * s) + k))) h136 (by omega) (by have h18 : ab_n0 = 18 := rfl; omega)) (fun oc G2 h => by rcases h with ⟨_, h, _⟩ <;> exact ⟨_, h⟩) (by omega) m_MO_mark ml_MO_536 st_MO_mark (Nat.le_of_ble_eq_true rfl) d_MO_lastEnd_298 rfl ?_
                intro v G32 hq
                rcases hq with ⟨B33, hv, hfk, hlk, hsk, hN136, hq34⟩
                cases hv
                have h80 := hfk.get h80 (by decide)
                have h118 := hfk.get h118 (by decide)
                have h119 := hfk.get h119 (by decide)
                have h120 := hfk.get h120 (by decide)
                have h85 := hfk.get h85 (by decide)
                have hfr := hfr.tr hfk (by decide)
                have hlen := hlk.trans hlen
                have hsl := hsk.trans hsl
                have h136 := hN136
                change ab_W _ _ _ G32 301 [some (vR 80), some (vz s), some (vz fm), some (vz n), some (vz ls), some (vz cl), some (vz far), some (vz p), some (vz gr), some (vz k), some (vz ((12500 * s) + k)), some (vz (A_step ((12500 * s) + k))), some (vz 0)] [] _
                refine ab_iload d_MO_lastEnd_301 rfl ?_
                refine zz_iconst d_MO_lastEnd_303 ?_
                refine zz_icmp_ne (tgt := 323) d_MO_lastEnd_304 (by decide) (by omega) (by decide) (fun c35 => ?_) (fun c35 => ?_)
                · have hbz_ := cbz1 (n := n) hq12 (by omega) (by omega) hq34
                  refine zz_iconst d_MO_lastEnd_323 ?_
                  refine ab_istore d_MO_lastEnd_324 (Nat.le_of_ble_eq_true rfl) (Nat.le_of_ble_eq_true rfl) rfl ?_
                  change ab_W _ _ _ G32 326 [some (vR 80), some (vz s), some (vz fm), some (vz n), some (vz ls), some (vz cl), some (vz far), some (vz p), some (vz 1), some (vz k), some (vz ((12500 * s) + k)), some (vz (A_step ((12500 * s) + k))), some (vz 0)] [] _
                  refine zz_iinc d_MO_lastEnd_326 rfl (Nat.le_of_ble_eq_true rfl) (Nat.le_of_ble_eq_true rfl) rfl ?_
                  change ab_W _ _ _ G32 329 [some (vR 80), some (vz s), some (vz fm), some (vz n), some (vz ls), some (vz cl), some (vz far), some (vz p), some (vz 1), some (vz (k + 1)), some (vz ((12500 * s) + k)), some (vz (A_step ((12500 * s) + k))), some (vz 0)] [] _
                  refine ab_goto (tgt := 149) d_MO_lastEnd_329 (by decide) ?_
                  refine ab_less (L' := [some (vR 80), some (vz s), some (vz fm), some (vz n), some (vz ls), some (vz cl), some (vz far), some (vz p), some (vz 1), some (vz (k + 1)), none, none, none]) (fun i v h => by rcases i with _ | _ | _ | _ | _ | _ | _ | _ | _ | _ | _ | _ | _ | i <;> first | exact h | (simp at h)) ?_
                  exact ih (k := (k + 1)) (gr := 1) (CO := B33) h80 h136 h118 h119 h120 h85 (by omega) (cld_mark jl (by omega) (lead_eps (jl p k (by omega) (by omega) (by omega) (by omega) hq4).2 (by omega) (by omega) (by first | exact Or.inl ⟨by omega, Or.inl rfl⟩ | exact Or.inl ⟨by omega, Or.inr rfl⟩ | exact Or.inr (Or.inl ⟨by omega, rfl⟩))) hq34) (csm_mark jsm hq34) (fun h => absurd h (by decide)) hfr hlen hsl (by omega) hk0
                · have hmr_ := hsg_.2.2.1 (by omega)
                  refine ab_aload_n d_MO_lastEnd_307 rfl ?_
                  refine ab_getf (fs := mof m_thrown m_taped m_length m_out m_wide m_gathered m_sets m_ranges m_nodes m_at m_flags m_fault m_place m_numbered m_depth m_value m_isNot m_least0 m_most0 m_slot m_work m_got m_rowMany m_charAt m_charWide m_trail m_isMatch m_matchGroups m_allFrom m_allBefore m_founds m_pieces m_writtenMany m_templateWide m_tooMuch) f_MO_184 d_MO_lastEnd_308 h80.2.2 rfl ?_
                  refine ab_iload d_MO_lastEnd_311 rfl ?_
                  refine ab_aload_n d_MO_lastEnd_313 rfl ?_
                  refine ab_getf (fs := mof m_thrown m_taped m_length m_out m_wide m_gathered m_sets m_ranges m_nodes m_at m_flags m_fault m_place m_numbered m_depth m_value m_isNot m_least0 m_most0 m_slot m_work m_got m_rowMany m_charAt m_charWide m_trail m_isMatch m_matchGroups m_allFrom m_allBefore m_founds m_pieces m_writtenMany m_templateWide m_tooMuch) f_MO_134 d_MO_lastEnd_314 h80.2.2 rfl ?_
                  refine ab_iload d_MO_lastEnd_317 rfl ?_
                  refine zz_iald d_MO_lastEnd_319 h120 (by omega) ?_
                  refine ab_callS (d' := d - 1) (as := [vR 136, vz p, vz (A_more ((12500 * s) + k))]) (st := []) (z_MO_mark (o := o) (a := 136) (l := 336) (A := B33) (p := p) (k := (A_more ((12500 * s) + k))) h136 (by omega) (by have h18 : ab_n0 = 18 := rfl; omega)) (fun oc G2 h => by rcases h with ⟨_, h, _⟩ <;> exact ⟨_, h⟩) (by omega) m_MO_mark ml_MO_536 st_MO_mark (Nat.le_of_ble_eq_true rfl) d_MO_lastEnd_320 rfl ?_
                  intro v G36 hq
                  rcases hq with ⟨B37, hv, hfk, hlk, hsk, hN136, hq38⟩
                  cases hv
                  have h80 := hfk.get h80 (by decide)
                  have h118 := hfk.get h118 (by decide)
                  have h119 := hfk.get h119 (by decide)
                  have h120 := hfk.get h120 (by decide)
                  have h85 := hfk.get h85 (by decide)
                  have hfr := hfr.tr hfk (by decide)
                  have hlen := hlk.trans hlen
                  have hsl := hsk.trans hsl
                  have h136 := hN136
                  change ab_W _ _ _ G36 323 [some (vR 80), some (vz s), some (vz fm), some (vz n), some (vz ls), some (vz cl), some (vz far), some (vz p), some (vz gr), some (vz k), some (vz ((12500 * s) + k)), some (vz (A_step ((12500 * s) + k))), some (vz 0)] [] _
                  have hbz_ := Int.le_trans (cbz0 (n := n) (by omega) hq38) (cbz1 (n := n) hq12 (by omega) (by omega) hq34)
                  refine zz_iconst d_MO_lastEnd_323 ?_
                  refine ab_istore d_MO_lastEnd_324 (Nat.le_of_ble_eq_true rfl) (Nat.le_of_ble_eq_true rfl) rfl ?_
                  change ab_W _ _ _ G36 326 [some (vR 80), some (vz s), some (vz fm), some (vz n), some (vz ls), some (vz cl), some (vz far), some (vz p), some (vz 1), some (vz k), some (vz ((12500 * s) + k)), some (vz (A_step ((12500 * s) + k))), some (vz 0)] [] _
                  refine zz_iinc d_MO_lastEnd_326 rfl (Nat.le_of_ble_eq_true rfl) (Nat.le_of_ble_eq_true rfl) rfl ?_
                  change ab_W _ _ _ G36 329 [some (vR 80), some (vz s), some (vz fm), some (vz n), some (vz ls), some (vz cl), some (vz far), some (vz p), some (vz 1), some (vz (k + 1)), some (vz ((12500 * s) + k)), some (vz (A_step ((12500 * s) + k))), some (vz 0)] [] _
                  refine ab_goto (tgt := 149) d_MO_lastEnd_329 (by decide) ?_
                  refine ab_less (L' := [some (vR 80), some (vz s), some (vz fm), some (vz n), some (vz ls), some (vz cl), some (vz far), some (vz p), some (vz 1), some (vz (k + 1)), none, none, none]) (fun i v h => by rcases i with _ | _ | _ | _ | _ | _ | _ | _ | _ | _ | _ | _ | _ | i <;> first | exact h | (simp at h)) ?_
                  exact ih (k := (k + 1)) (gr := 1) (CO := B37) h80 h136 h118 h119 h120 h85 (by omega) (cld_mark (cld_mark jl (by omega) (lead_eps (jl p k (by omega) (by omega) (by omega) (by omega) hq4).2 (by omega) (by omega) (by first | exact Or.inl ⟨by omega, Or.inl rfl⟩ | exact Or.inl ⟨by omega, Or.inr rfl⟩ | exact Or.inr (Or.inl ⟨by omega, rfl⟩))) hq34) (by omega) (lead_eps (jl p k (by omega) (by omega) (by omega) (by omega) hq4).2 (by omega) (by omega) (by first | exact Or.inl ⟨by omega, Or.inl rfl⟩ | exact Or.inl ⟨by omega, Or.inr rfl⟩ | exact Or.inr (Or.inl ⟨by omega, rfl⟩))) hq38) (csm_mark (csm_mark jsm hq34) hq38) (fun h => absurd h (by decide)) hfr hlen hsl (by omega) hk0
            · have hak_ := hsg_.2.2.2.2.1 (by omega)
              refine ab_aload_n d_MO_lastEnd_207 rfl ?_
              refine ab_aload_n d_MO_lastEnd_208 rfl ?_
              refine ab_getf (fs := mof m_thrown m_taped m_length m_out m_wide m_gathered m_sets m_ranges m_nodes m_at m_flags m_fault m_place m_numbered m_depth m_value m_isNot m_least0 m_most0 m_slot m_work m_got m_rowMany m_charAt m_charWide m_trail m_isMatch m_matchGroups m_allFrom m_allBefore m_founds m_pieces m_writtenMany m_templateWide m_tooMuch) f_MO_134 d_MO_lastEnd_209 h80.2.2 rfl ?_
              refine ab_iload d_MO_lastEnd_212 rfl ?_
              refine zz_iald d_MO_lastEnd_214 h120 (by omega) ?_
              refine ab_iload d_MO_lastEnd_215 rfl ?_
              refine ab_callV (d' := d - 1) (as := [vz (A_more ((12500 * s) + k)), vz p]) (st := []) (r := _) (z_MO_holds (o := o) (m_thrown := m_thrown) (m_taped := m_taped) (m_length := m_length) (m_out := m_out) (m_wide := m_wide) (m_gathered := m_gathered) (m_sets := m_sets) (m_ranges := m_ranges) (m_nodes := m_nodes) (m_at := m_at) (m_flags := m_flags) (m_fault := m_fault) (m_place := m_place) (m_numbered := m_numbered) (m_depth := m_depth) (m_value := m_value) (m_isNot := m_isNot) (m_least0 := m_least0) (m_most0 := m_most0) (m_slot := m_slot) (m_work := m_work) (m_got := m_got) (m_rowMany := m_rowMany) (m_charAt := m_charAt) (m_charWide := m_charWide) (m_trail := m_trail) (m_isMatch := m_isMatch) (m_matchGroups := m_matchGroups) (m_allFrom := m_allFrom) (m_allBefore := m_allBefore) (m_founds := m_founds) (m_pieces := m_pieces) (m_writtenMany := m_writtenMany) (m_templateWide := m_templateWide) (m_tooMuch := m_tooMuch) (A_subject := A_subject) (p := p) (a := (A_more ((12500 * s) + k))) h80 h85 (by omega) jsb (by omega) (by omega) (by omega)) (fun oc G2 h => by rcases h with ⟨h, _⟩ | ⟨h, _⟩ <;> exact ⟨_, h⟩) (by omega) m_MO_holds ml_MO_532 im_MO_holds se_MO_holds c_MO h80.2.2 (Nat.le_of_ble_eq_true rfl) d_MO_lastEnd_217 rfl ?_
              intro v G39 hq
              rcases hq with ⟨hv, hGe, hq40⟩ | ⟨hv, hGe, hq41⟩
              · cases hv
                rw [hGe]
                change ab_W _ _ _ G 220 [some (vR 80), some (vz s), some (vz fm), some (vz n), some (vz ls), some (vz cl), some (vz far), some (vz p), some (vz gr), some (vz k), some (vz ((12500 * s) + k)), some (vz (A_step ((12500 * s) + k))), none] [vz 1] _
                refine zz_if_ne (tgt := 226) d_MO_lastEnd_220 (by decide) (by decide) (fun c42 => ?_) (fun c42 => absurd c42 (by decide))
                have hnx_ := hsg_.2.1 (by omega) (by omega)
                refine ab_aload_n d_MO_lastEnd_226 rfl ?_
                refine ab_getf (fs := mof m_thrown m_taped m_length m_out m_wide m_gathered m_sets m_ranges m_nodes m_at m_flags m_fault m_place m_numbered m_depth m_value m_isNot m_least0 m_most0 m_slot m_work m_got m_rowMany m_charAt m_charWide m_trail m_isMatch m_matchGroups m_allFrom m_allBefore m_founds m_pieces m_writtenMany m_templateWide m_tooMuch) f_MO_184 d_MO_lastEnd_227 h80.2.2 rfl ?_
                refine ab_iload d_MO_lastEnd_230 rfl ?_
                refine ab_aload_n d_MO_lastEnd_232 rfl ?_
                refine ab_getf (fs := mof m_thrown m_taped m_length m_out m_wide m_gathered m_sets m_ranges m_nodes m_at m_flags m_fault m_place m_numbered m_depth m_value m_isNot m_least0 m_most0 m_slot m_work m_got m_rowMany m_charAt m_charWide m_trail m_isMatch m_matchGroups m_allFrom m_allBefore m_founds m_pieces m_writtenMany m_templateWide m_tooMuch) f_MO_131 d_MO_lastEnd_233 h80.2.2 rfl ?_
                refine ab_iload d_MO_lastEnd_236 rfl ?_
                refine zz_iald d_MO_lastEnd_238 h119 (by omega) ?_
                refine ab_callS (d' := d - 1) (as := [vR 136, vz p, vz (A_next ((12500 * s) + k))]) (st := []) (z_MO_bit (o := o) (a := 136) (l := 336) (A := CO) (p := p) (k := (A_next ((12500 * s) + k))) h136 (by omega)) (fun oc G2 h => by rcases h with ⟨h, _⟩ | ⟨h, _⟩ <;> exact ⟨_, h⟩) (by omega) m_MO_bit ml_MO_528 st_MO_bit (Nat.le_of_ble_eq_true rfl) d_MO_lastEnd_239 rfl ?_
                intro v G43 hq
                rcases hq with ⟨hv, hGe, hq44⟩ | ⟨hv, hGe, hq45⟩
                · cases hv
                  rw [hGe]
                  change ab_W _ _ _ G 242 [some (vR 80), some (vz s), some (vz fm), some (vz n), some (vz ls), some (vz cl), some (vz far), some (vz p), some (vz gr), some (vz k), some (vz ((12500 * s) + k)), some (vz (A_step ((12500 * s) + k))), none] [vz 1] _
                  refine zz_if_eq (tgt := 274) d_MO_lastEnd_242 (by decide) (by decide) (fun c46 => absurd c46 (by decide)) (fun c46 => ?_)
                  refine ab_iload d_MO_lastEnd_245 rfl ?_
                  refine zz_iconst d_MO_lastEnd_247 ?_
                  refine zz_icmp_ne (tgt := 270) d_MO_lastEnd_248 (by decide) (by omega) (by decide) (fun c47 => ?_) (fun c47 => absurd c47 (by omega))
                  refine zz_iconst d_MO_lastEnd_270 ?_
                  refine ab_goto (tgt := 275) d_MO_lastEnd_271 (by decide) ?_
                  refine ab_istore d_MO_lastEnd_275 (Nat.le_of_ble_eq_true rfl) (Nat.le_of_ble_eq_true rfl) rfl ?_
                  change ab_W _ _ _ G 277 [some (vR 80), some (vz s), some (vz fm), some (vz n), some (vz ls), some (vz cl), some (vz far), some (vz p), some (vz gr), some (vz k), some (vz ((12500 * s) + k)), some (vz (A_step ((12500 * s) + k))), some (vz 1)] [] _
                  refine ab_iload d_MO_lastEnd_277 rfl ?_
                  refine zz_if_eq (tgt := 285) d_MO_lastEnd_279 (by decide) (by decide) (fun c48 => absurd c48 (by decide)) (fun c48 => ?_)
                  refine ab_goto (tgt := 326) d_MO_lastEnd_282 (by decide) ?_
                  refine zz_iinc d_MO_lastEnd_326 rfl (Nat.le_of_ble_eq_true rfl) (Nat.le_of_ble_eq_true rfl) rfl ?_
                  change ab_W _ _ _ G 329 [some (vR 80), some (vz s), some (vz fm), some (vz n), some (vz ls), some (vz cl), some (vz far), some (vz p), some (vz gr), some (vz (k + 1)), some (vz ((12500 * s) + k)), some (vz (A_step ((12500 * s) + k))), some (vz 1)] [] _
                  refine ab_goto (tgt := 149) d_MO_lastEnd_329 (by decide) ?_
                  refine ab_less (L' := [some (vR 80), some (vz s), some (vz fm), some (vz n), some (vz ls), some (vz cl), some (vz far), some (vz p), some (vz gr), some (vz (k + 1)), none, none, none]) (fun i v h => by rcases i with _ | _ | _ | _ | _ | _ | _ | _ | _ | _ | _ | _ | _ | i <;> first | exact h | (simp at h)) ?_
                  exact ih (k := (k + 1)) (gr := gr) (CO := CO) h80 h136 h118 h119 h120 h85 (by omega) jl jsm (fun h => ccl_s (jq h) (fun _ => ⟨(fun t => absurd t (by omega)), (fun t => hq44), (fun t u => hq44)⟩)) hfr hlen hsl (by omega) hk0
                · cases hv
                  rw [hGe]
                  change ab_W _ _ _ G 242 [some (vR 80), some (vz s), some (vz fm), some (vz n), some (vz ls), some (vz cl), some (vz far), some (vz p), some (vz gr), some (vz k), some (vz ((12500 * s) + k)), some (vz (A_step ((12500 * s) + k))), none] [vz 0] _
                  refine zz_if_eq (tgt := 274) d_MO_lastEnd_242 (by decide) (by decide) (fun c49 => ?_) (fun c49 => absurd c49 (by decide))
                  refine zz_iconst d_MO_lastEnd_274 ?_
                  refine ab_istore d_MO_lastEnd_275 (Nat.le_of_ble_eq_true rfl) (Nat.le_of_ble_eq_true rfl) rfl ?_
                  change ab_W _ _ _ G 277 [some (vR 80), some (vz s), some (vz fm), some (vz n), some (vz ls), some (vz cl), some (vz far), some (vz p), some (vz gr), some (vz k), some (vz ((12500 * s) + k)), some (vz (A_step ((12500 * s) + k))), some (vz 0)] [] _
                  refine ab_iload d_MO_lastEnd_277 rfl ?_
                  refine zz_if_eq (tgt := 285) d_MO_lastEnd_279 (by decide) (by decide) (fun c50 => ?_) (fun c50 => absurd c50 (by decide))
                  refine ab_aload_n d_MO_lastEnd_285 rfl ?_
                  refine ab_getf (fs := mof m_thrown m_taped m_length m_out m_wide m_gathered m_sets m_ranges m_nodes m_at m_flags m_fault m_place m_numbered m_depth m_value m_isNot m_least0 m_most0 m_slot m_work m_got m_rowMany m_charAt m_charWide m_trail m_isMatch m_matchGroups m_allFrom m_allBefore m_founds m_pieces m_writtenMany m_templateWide m_tooMuch) f_MO_184 d_MO_lastEnd_286 h80.2.2 rfl ?_
                  refine ab_iload d_MO_lastEnd_289 rfl ?_
                  refine ab_aload_n d_MO_lastEnd_291 rfl ?_
                  refine ab_getf (fs := mof m_thrown m_taped m_length m_out m_wide m_gathered m_sets m_ranges m_nodes m_at m_flags m_fault m_place m_numbered m_depth m_value m_isNot m_least0 m_most0 m_slot m_work m_got m_rowMany m_charAt m_charWide m_trail m_isMatch m_matchGroups m_allFrom m_allBefore m_founds m_pieces m_writtenMany m_templateWide m_tooMuch) f_MO_131 d_MO_lastEnd_292 h80.2.2 rfl ?_
                  refine ab_iload d_MO_lastEnd_295 rfl ?_
                  refine zz_iald d_MO_lastEnd_297 h119 (by omega) ?_
                  refine ab_callS (d' := d - 1) (as := [vR 136, vz p, vz (A_next ((12500 * s) + k))]) (st := []) (z_MO_mark (o := o) (a := 136) (l := 336) (A := CO) (p := p) (k := (A_next ((12500 * s) + k))) h136 (by omega) (by have h18 : ab_n0 = 18 := rfl; omega)) (fun oc G2 h => by rcases h with ⟨_, h, _⟩ <;> exact ⟨_, h⟩) (by omega) m_MO_mark ml_MO_536 st_MO_mark (Nat.le_of_ble_eq_true rfl) d_MO_lastEnd_298 rfl ?_
                  intro v G51 hq
                  rcases hq with ⟨B52, hv, hfk, hlk, hsk, hN136, hq53⟩
                  cases hv
                  have h80 := hfk.get h80 (by decide)
                  have h118 := hfk.get h118 (by decide)
                  have h119 := hfk.get h119 (by decide)
                  have h120 := hfk.get h120 (by decide)
                  have h85 := hfk.get h85 (by decide)
                  have hfr := hfr.tr hfk (by decide)
                  have hlen := hlk.trans hlen
                  have hsl := hsk.trans hsl
                  have h136 := hN136
                  change ab_W _ _ _ G51 301 [some (vR 80), some (vz s), some (vz fm), some (vz n), some (vz ls), some (vz cl), some (vz far), some (vz p), some (vz gr), some (vz k), some (vz ((12500 * s) + k)), some (vz (A_step ((12500 * s) + k))), some (vz 0)] [] _
                  refine ab_iload d_MO_lastEnd_301 rfl ?_
                  refine zz_iconst d_MO_lastEnd_303 ?_
                  refine zz_icmp_ne (tgt := 323) d_MO_lastEnd_304 (by decide) (by omega) (by decide) (fun c54 => ?_) (fun c54 => absurd c54 (by omega))
                  have hbz_ := cbz1 (n := n) hq45 (by omega) (by omega) hq53
                  refine zz_iconst d_MO_lastEnd_323 ?_
                  refine ab_istore d_MO_lastEnd_324 (Nat.le_of_ble_eq_true rfl) (Nat.le_of_ble_eq_true rfl) rfl ?_
                  change ab_W _ _ _ G51 326 [some (vR 80), some (vz s), some (vz fm), some (vz n), some (vz ls), some (vz cl), some (vz far), some (vz p), some (vz 1), some (vz k), some (vz ((12500 * s) + k)), some (vz (A_step ((12500 * s) + k))), some (vz 0)] [] _
                  refine zz_iinc d_MO_lastEnd_326 rfl (Nat.le_of_ble_eq_true rfl) (Nat.le_of_ble_eq_true rfl) rfl ?_
                  change ab_W _ _ _ G51 329 [some (vR 80), some (vz s), some (vz fm), some (vz n), some (vz ls), some (vz cl), some (vz far), some (vz p), some (vz 1), some (vz (k + 1)), some (vz ((12500 * s) + k)), some (vz (A_step ((12500 * s) + k))), some (vz 0)] [] _
                  refine ab_goto (tgt := 149) d_MO_lastEnd_329 (by decide) ?_
                  refine ab_less (L' := [some (vR 80), some (vz s), some (vz fm), some (vz n), some (vz ls), some (vz cl), some (vz far), some (vz p), some (vz 1), some (vz (k + 1)), none, none, none]) (fun i v h => by rcases i with _ | _ | _ | _ | _ | _ | _ | _ | _ | _ | _ | _ | _ | i <;> first | exact h | (simp at h)) ?_
                  exact ih (k := (k + 1)) (gr := 1) (CO := B52) h80 h136 h118 h119 h120 h85 (by omega) (cld_mark jl (by omega) (lead_eps (jl p k (by omega) (by omega) (by omega) (by omega) hq4).2 (by omega) (by omega) (by first | exact Or.inl ⟨by omega, Or.inl rfl⟩ | exact Or.inl ⟨by omega, Or.inr rfl⟩ | exact Or.inr (Or.inl ⟨by omega, rfl⟩) | exact Or.inr (Or.inr ⟨by omega, hq40, rfl⟩))) hq53) (csm_mark jsm hq53) (fun h => absurd h (by decide)) hfr hlen hsl (by omega) hk0
              · cases hv
                rw [hGe]
                change ab_W _ _ _ G 220 [some (vR 80), some (vz s), some (vz fm), some (vz n), some (vz ls), some (vz cl), some (vz far), some (vz p), some (vz gr), some (vz k), some (vz ((12500 * s) + k)), some (vz (A_step ((12500 * s) + k))), none] [vz 0] _
                refine zz_if_ne (tgt := 226) d_MO_lastEnd_220 (by decide) (by decide) (fun c55 => absurd c55 (by decide)) (fun c55 => ?_)
                refine ab_goto (tgt := 326) d_MO_lastEnd_223 (by decide) ?_
                refine zz_iinc d_MO_lastEnd_326 rfl (Nat.le_of_ble_eq_true rfl) (Nat.le_of_ble_eq_true rfl) rfl ?_
                change ab_W _ _ _ G 329 [some (vR 80), some (vz s), some (vz fm), some (vz n), some (vz ls), some (vz cl), some (vz far), some (vz p), some (vz gr), some (vz (k + 1)), some (vz ((12500 * s) + k)), some (vz (A_step ((12500 * s) + k))), none] [] _
                refine ab_goto (tgt := 149) d_MO_lastEnd_329 (by decide) ?_
                refine ab_less (L' := [some (vR 80), some (vz s), some (vz fm), some (vz n), some (vz ls), some (vz cl), some (vz far), some (vz p), some (vz gr), some (vz (k + 1)), none, none, none]) (fun i v h => by rcases i with _ | _ | _ | _ | _ | _ | _ | _ | _ | _ | _ | _ | _ | i <;> first | exact h | (simp at h)) ?_
                exact ih (k := (k + 1)) (gr := gr) (CO := CO) h80 h136 h118 h119 h120 h85 (by omega) jl jsm (fun h => ccl_s (jq h) (fun _ => ⟨(fun t => absurd t (by omega)), (fun t => absurd t (by omega)), (fun t u => absurd u hq41)⟩)) hfr hlen hsl (by omega) hk0
      · cases hv
        rw [hGe]
        change ab_W _ _ _ G 185 [some (vR 80), some (vz s), some (vz fm), some (vz n), some (vz ls), some (vz cl), some (vz far), some (vz p), some (vz gr), some (vz k), some (vz ((12500 * s) + k)), some (vz (A_step ((12500 * s) + k))), none] [vz 0] _
        refine zz_if_eq (tgt := 326) d_MO_lastEnd_185 (by decide) (by decide) (fun c56 => ?_) (fun c56 => absurd c56 (by decide))
        refine zz_iinc d_MO_lastEnd_326 rfl (Nat.le_of_ble_eq_true rfl) (Nat.le_of_ble_eq_true rfl) rfl ?_
        change ab_W _ _ _ G 329 [some (vR 80), some (vz s), some (vz fm), some (vz n), some (vz ls), some (vz cl), some (vz far), some (vz p), some (vz gr), some (vz (k + 1)), some (vz ((12500 * s) + k)), some (vz (A_step ((12500 * s) + k))), none] [] _
        refine ab_goto (tgt := 149) d_MO_lastEnd_329 (by decide) ?_
        refine ab_less (L' := [some (vR 80), some (vz s), some (vz fm), some (vz n), some (vz ls), some (vz cl), some (vz far), some (vz p), some (vz gr), some (vz (k + 1)), none, none, none]) (fun i v h => by rcases i with _ | _ | _ | _ | _ | _ | _ | _ | _ | _ | _ | _ | _ | i <;> first | exact h | (simp at h)) ?_
        exact ih (k := (k + 1)) (gr := gr) (CO := CO) h80 h136 h118 h119 h120 h85 (by omega) jl jsm (fun h => ccl_s (jq h) (fun d => absurd d hq5)) hfr hlen hsl (by omega) hk0
set_option maxRecDepth 100000 in
set_option maxHeartbeats 4000000 in
theorem y_MO_lastEnd_138 {X : ab_X} {d : Nat} {Q : Outcome → ab_G → Prop} {o : Nat → Nat} {G0 : ab_G} {m_thrown : Int} {m_taped : Int} {m_length : Int} {m_out : Int} {m_wide : Int} {m_gathered : Int} {m_sets : Int} {m_ranges : Int} {m_nodes : Int} {m_at : Int} {m_flags : Int} {m_fault : Int} {m_place : Int} {m_numbered : Int} {m_depth : Int} {m_value : Int} {m_isNot : Int} {m_least0 : Int} {m_most0 : Int} {m_slot : Int} {m_work : Int} {m_got : Int} {m_rowMany : Int} {m_charAt : Int} {m_charWide : Int} {m_trail : Int} {m_isMatch : Int} {m_matchGroups : Int} {m_allFrom : Int} {m_allBefore : Int} {m_founds : Int} {m_pieces : Int} {m_writtenMany : Int} {m_templateWide : Int} {m_tooMuch : Int} {A_subject : Int → Int} {A_step : Int → Int} {A_next : Int → Int} {A_more : Int → Int} {A_classAt : Int → Int} {A_classMany : Int → Int} {A_classLow : Int → Int} {A_classHigh : Int → Int} {CO0 : Int → Int} {s : Int} {fm : Int} {n : Int} {ls : Int} {cl : Int} {far : Int} {p : Int} {en : Int} (n18 : ab_n0 = 18) (cle : 0 ≤ m_length ∧ m_length ≤ 2000) (cs : 0 ≤ s ∧ s ≤ 5 ∧ 0 ≤ n ∧ n ≤ 12500) (jsg : sgood A_step A_next A_more A_classAt A_classMany (12500 * s) n) (jst : rgs A_step 75000 0 6) (jsb : rgs A_subject 2000 0 255) (cp : 0 ≤ fm ∧ fm ≤ p ∧ p ≤ m_length ∧ p ≤ cl) (hd : 4 ≤ d) : ∀ (mz : Nat) {G : ab_G} {gr : Int} {CO : Int → Int}, (cc o G 80 280 (ab_ob 12 (mof m_thrown m_taped m_length m_out m_wide m_gathered m_sets m_ranges m_nodes m_at m_flags m_fault m_place m_numbered m_depth m_value m_isNot m_least0 m_most0 m_slot m_work m_got m_rowMany m_charAt m_charWide m_trail m_isMatch m_matchGroups m_allFrom m_allBefore m_founds m_pieces m_writtenMany m_templateWide m_tooMuch))) → (cc o G 136 336 (zl 392196 CO)) → (cc o G 118 318 (za 75000 A_step)) → (cc o G 119 319 (za 75000 A_next)) → (cc o G 120 320 (za 75000 A_more)) → (cc o G 85 285 (za 2000 A_subject)) → (0 ≤ gr ∧ gr ≤ 1) → (cld A_step A_next A_more A_classAt A_classMany A_classLow A_classHigh A_subject CO m_length (12500 * s) n fm en cl) → (csm CO0 CO p) → (gr = 0 → ccl A_step A_next A_more A_subject CO m_length (12500 * s) p n) → (fx o o [336] G0 G) → (G.length = G0.length) → (ab_slots G = ab_slots G0) → (Int.toNat (bz (fun i => nbit CO p i) n + gr) < mz) → (∀ (G2 : ab_G) (C2 : Int → Int), (cc o G2 136 336 (zl 392196 C2)) → (cld A_step A_next A_more A_classAt A_classMany A_classLow A_classHigh A_subject C2 m_length (12500 * s) n fm en cl) → (csm CO0 C2 p) → (ccl A_step A_next A_more A_subject C2 m_length (12500 * s) p n) → (fx o o [336] G0 G2) → (G2.length = G0.length) → (ab_slots G2 = ab_slots G0) → ab_W X (ab_pl y_MO_lastEnd b_MO_lastEnd 13 (some (.int))) d G2 335 [some (vR 80), some (vz s), some (vz fm), some (vz n), some (vz ls), some (vz cl), some (vz far), some (vz p), none, none, none, none, none] [] Q) → ab_W X (ab_pl y_MO_lastEnd b_MO_lastEnd 13 (some (.int))) d G 138 [some (vR 80), some (vz s), some (vz fm), some (vz n), some (vz ls), some (vz cl), some (vz far), some (vz p), some (vz gr), none, none, none, none] [] Q := by
  intro mz
  induction mz with
  | zero => intro G gr CO h80 h136 h118 h119 h120 h85 ci jl jsm jq hfr hlen hsl hm hk0; exact absurd hm (Nat.not_lt_zero _)
  | succ mz ih =>
    intro G gr CO h80 h136 h118 h119 h120 h85 ci jl jsm jq hfr hlen hsl hm hk0
    have hbi_ := bz_in (P := fun i => nbit CO p i) (n := n) (by omega)
    refine ab_iload d_MO_lastEnd_138 rfl ?_
    refine zz_if_eq (tgt := 335) d_MO_lastEnd_140 (by decide) (by omega) (fun c1 => ?_) (fun c1 => ?_)
    · refine ab_less (L' := [some (vR 80), some (vz s), some (vz fm), some (vz n), some (vz ls), some (vz cl), some (vz far), some (vz p), none, none, none, none, none]) (fun i v h => by rcases i with _ | _ | _ | _ | _ | _ | _ | _ | _ | _ | _ | _ | _ | i <;> first | exact h | (simp at h)) ?_
      exact hk0 _ _ h136 (by exact jl) (by exact jsm) (by exact jq (by omega)) hfr hlen hsl
    · refine zz_iconst d_MO_lastEnd_143 ?_
      refine ab_istore d_MO_lastEnd_144 (Nat.le_of_ble_eq_true rfl) (Nat.le_of_ble_eq_true rfl) rfl ?_
      change ab_W _ _ _ G 146 [some (vR 80), some (vz s), some (vz fm), some (vz n), some (vz ls), some (vz cl), some (vz far), some (vz p), some (vz 0), none, none, none, none] [] _
      refine zz_iconst d_MO_lastEnd_146 ?_
      refine ab_istore d_MO_lastEnd_147 (Nat.le_of_ble_eq_true rfl) (Nat.le_of_ble_eq_true rfl) rfl ?_
      change ab_W _ _ _ G 149 [some (vR 80), some (vz s), some (vz fm), some (vz n), some (vz ls), some (vz cl), some (vz far), some (vz p), some (vz 0), some (vz 0), none, none, none] [] _
      refine y_MO_lastEnd_149 (m_thrown := m_thrown) (m_taped := m_taped) (m_length := m_length) (m_out := m_out) (m_wide := m_wide) (m_gathered := m_gathered) (m_sets := m_sets) (m_ranges := m_ranges) (m_nodes := m_nodes) (m_at := m_at) (m_flags := m_flags) (m_fault := m_fault) (m_place := m_place) (m_numbered := m_numbered) (m_depth := m_depth) (m_value := m_value) (m_isNot := m_isNot) (m_least0 := m_least0) (m_most0 := m_most0) (m_slot := m_slot) (m_work := m_work) (m_got := m_got) (m_rowMany := m_rowMany) (m_charAt := m_charAt) (m_charWide := m_charWide) (m_trail := m_trail) (m_isMatch := m_isMatch) (m_matchGroups := m_matchGroups) (m_allFrom := m_allFrom) (m_allBefore := m_allBefore) (m_founds := m_founds) (m_pieces := m_pieces) (m_writtenMany := m_writtenMany) (m_templateWide := m_templateWide) (m_tooMuch := m_tooMuch) (A_subject := A_subject) (A_step := A_step) (A_next := A_next) (A_more := A_more) (CO0 := CO0) (s := s) (fm := fm) (n := n) (ls := ls) (cl := cl) (far := far) (p := p) (z0 := (bz (fun i => nbit CO p i) n)) (en := en) (G0 := G) (k := 0) (gr := 0) (CO := CO) (by omega) (by omega) (by omega) jsg jst jsb (by omega) (by omega) (Int.toNat (n - 0) + 1) h80 h136 h118 h119 h120 h85 (by omega) jl jsm (fun _ => ccl_0) fx.rf rfl rfl (by omega) (fun G2 g23 C24 hN136 hq5 hq6 hq7 hq8 hfk hlk hsk => ?_)
      · have h80 := hfk.get h80 (by decide)
        have h118 := hfk.get h118 (by decide)
        have h119 := hfk.get h119 (by decide)
        have h120 := hfk.get h120 (by decide)
        have h85 := hfk.get h85 (by decide)
        have hfr := hfr.tr hfk (by decide)
        have hlen := hlk.trans hlen
        have hsl := hsk.trans hsl
        have h136 := hN136
        change ab_W _ _ _ G2 332 [some (vR 80), some (vz s), some (vz fm), some (vz n), some (vz ls), some (vz cl), some (vz far), some (vz p), some (vz g23), none, none, none, none] [] _
        have hbi2_ := bz_in (P := fun i => nbit C24 p i) (n := n) (by omega)
        refine ab_goto (tgt := 138) d_MO_lastEnd_332 (by decide) ?_
        exact ih (gr := g23) (CO := C24) h80 h136 h118 h119 h120 h85 (by omega) hq6 hq7 hq8 hfr hlen hsl (by omega) hk0
