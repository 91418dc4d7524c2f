set_option maxRecDepth 100000 in
set_option maxHeartbeats 4000000 in
theorem y_MO_readClass_55 {X : ab_X} {d : Nat} {Q : Outcome → ab_G → Prop} {o : Nat → Nat} {G0 : ab_G} {m_thrown : Int} {m_taped : Int} {m_length : Int} {m_out : Int} {m_sets : Int} {m_ranges : Int} {m_nodes : Int} {m_flags : Int} {m_numbered : Int} {m_depth : Int} {m_least0 : Int} {m_most0 : Int} {m_slot : Int} {m_work : Int} {m_got : Int} {m_rowMany : Int} {m_charAt : Int} {m_charWide : Int} {m_trail : Int} {m_isMatch : Int} {m_matchGroups : Int} {m_allFrom : Int} {m_allBefore : Int} {m_founds : Int} {m_pieces : Int} {m_writtenMany : Int} {m_templateWide : Int} {m_tooMuch : Int} {A_tape : Int → Int} {wh : Int} {nt : Int} {a0 : Int} (n18 : ab_n0 = 18) (cta : 0 ≤ m_taped ∧ m_taped ≤ 2000) (jtp : rgs A_tape 2000 0 255) (cwh : -1 ≤ wh ∧ wh ≤ 2010 ∧ 0 ≤ a0 ∧ a0 ≤ 2001) (hd : 6 ≤ d) : ∀ (mz : Nat) {G : ab_G} {m_at : Int} {m_fault : Int} {m_place : Int} {m_value : Int} {m_isNot : Int} {m_wide : Int} {m_gathered : Int} {LO : Int → Int} {HI : Int → Int} {MK : Int → Int} {P : Int → Prop} {bg : Int} {mq : Int} {ms : Int}, (cc o G 80 280 (ab_ob 12 (mof m_thrown m_taped m_length m_out m_wide m_gathered m_sets m_ranges m_nodes m_at m_flags m_fault m_place m_numbered m_depth m_value m_isNot m_least0 m_most0 m_slot m_work m_got m_rowMany m_charAt m_charWide m_trail m_isMatch m_matchGroups m_allFrom m_allBefore m_founds m_pieces m_writtenMany m_templateWide m_tooMuch))) → (cc o G 84 284 (za 2000 A_tape)) → (cc o G 87 287 (za 9000 LO)) → (cc o G 88 288 (za 9000 HI)) → (cc o G 93 293 (zb 1200 MK)) → (cc o G 81 281 (za 13 tbA)) → (cc o G 82 282 (za 66 tbT)) → (0 ≤ m_fault ∧ m_fault ≤ 14 ∧ 0 ≤ m_at ∧ m_at ≤ 4000 ∧ 0 ≤ bg ∧ bg ≤ 1 ∧ 0 ≤ m_gathered ∧ m_gathered ≤ 6710 ∧ 0 ≤ ms ∧ -2147483648 ≤ m_value ∧ m_value ≤ 2147483647) → (m_fault = 0 → a0 ≤ m_at ∧ m_at ≤ m_taped ∧ 3 * m_gathered ≤ 10 * (m_at - a0) ∧ 0 ≤ mq ∧ mq ≤ 11 * (m_at - a0) ∧ ms = m_taped + 2 - m_at) → (rgs MK 1200 0 1) → (m_fault = 0 → clsI LO HI m_gathered MK P) → (m_fault = 0 → lfc P mq) → (fx o o [280, 287, 288, 293] G0 G) → (G.length = G0.length) → (ab_slots G = ab_slots G0) → (Int.toNat ms < mz) → (∀ (G2 : ab_G) (a2 : Int) (f2 : Int) (p2 : Int) (v2 : Int) (nt2 : Int) (w2 : Int) (g2 : Int) (m2 : Int) (LO2 : Int → Int) (HI2 : Int → Int) (MK2 : Int → Int) (P2 : Int → Prop), (cc o G2 80 280 (ab_ob 12 (mof m_thrown m_taped m_length m_out w2 g2 m_sets m_ranges m_nodes a2 m_flags f2 p2 m_numbered m_depth v2 nt2 m_least0 m_most0 m_slot m_work m_got m_rowMany m_charAt m_charWide m_trail m_isMatch m_matchGroups m_allFrom m_allBefore m_founds m_pieces m_writtenMany m_templateWide m_tooMuch))) → (cc o G2 87 287 (za 9000 LO2)) → (cc o G2 88 288 (za 9000 HI2)) → (cc o G2 93 293 (zb 1200 MK2)) → (0 ≤ f2 ∧ f2 ≤ 14 ∧ 0 ≤ a2 ∧ a2 ≤ 4000 ∧ 0 ≤ g2 ∧ g2 ≤ 6710 ∧ -2147483648 ≤ v2 ∧ v2 ≤ 2147483647) → (f2 = 0 → a0 ≤ a2 ∧ a2 < m_taped ∧ 0 ≤ m2 ∧ m2 ≤ 11 * (a2 - a0)) → (rgs MK2 1200 0 1) → (f2 = 0 → clsI LO2 HI2 g2 MK2 P2) → (f2 = 0 → lfc P2 m2) → (fx o o [280, 287, 288, 293] G0 G2) → (G2.length = G0.length) → (ab_slots G2 = ab_slots G0) → ab_W X (ab_pl y_MO_readClass b_MO_readClass 4 none) d G2 102 [some (vR 80), some (vz wh), some (vz nt), none] [] Q) → ab_W X (ab_pl y_MO_readClass b_MO_readClass 4 none) d G 55 [some (vR 80), some (vz wh), some (vz nt), some (vz bg)] [] Q := by
  intro mz
  induction mz with
  | zero => intro G m_at m_fault m_place m_value m_isNot m_wide m_gathered LO HI MK P bg mq ms h80 h84 h87 h88 h93 h81 h82 ci cj jmk jc jl hfr hlen hsl hm hk0; exact absurd hm (Nat.not_lt_zero _)
  | succ mz ih =>
    intro G m_at m_fault m_place m_value m_isNot m_wide m_gathered LO HI MK P bg mq ms h80 h84 h87 h88 h93 h81 h82 ci cj jmk jc jl hfr hlen hsl hm hk0
    refine ab_aload_n d_MO_readClass_55 rfl ?_
    refine ab_getf (fs := mof m_thrown m_taped m_length m_out m_wide m_gathered m_sets m_ranges m_nodes m_at m_flags m_fault m_place m_numbered m_depth m_value m_isNot m_least0 m_most0 m_slot m_work m_got m_rowMany m_charAt m_charWide m_trail m_isMatch m_matchGroups m_allFrom m_allBefore m_founds m_pieces m_writtenMany m_templateWide m_tooMuch) f_MO_273 d_MO_readClass_56 h80.2.2 rfl ?_
    refine zz_if_ne (tgt := 102) d_MO_readClass_59 (by decide) (by omega) (fun c1 => ?_) (fun c1 => ?_)
    · refine ab_less (L' := [some (vR 80), some (vz wh), some (vz nt), none]) (fun i v h => by rcases i with _ | _ | _ | _ | i <;> first | exact h | (simp at h)) ?_
      exact hk0 _ _ _ _ _ _ _ _ mq _ _ _ P h80 h87 h88 h93 (by omega) (by intro hf_; omega) (by first | exact jmk | exact rgs_w jmk (by omega)) (by exact jc) (by exact jl) hfr hlen hsl
    · have hcj_ := cj (by omega)
      have jc_ := jc (by omega)
      have jl_ := jl (by omega)
      refine ab_aload_n d_MO_readClass_62 rfl ?_
      refine zz_iconst d_MO_readClass_63 ?_
      refine ab_callV (d' := d - 1) (as := [vz 0]) (st := []) (r := _) (z_MO_here (o := o) (m_thrown := m_thrown) (m_taped := m_taped) (m_length := m_length) (m_out := m_out) (m_wide := m_wide) (m_gathered := m_gathered) (m_sets := m_sets) (m_ranges := m_ranges) (m_nodes := m_nodes) (m_at := m_at) (m_flags := m_flags) (m_fault := m_fault) (m_place := m_place) (m_numbered := m_numbered) (m_depth := m_depth) (m_value := m_value) (m_isNot := m_isNot) (m_least0 := m_least0) (m_most0 := m_most0) (m_slot := m_slot) (m_work := m_work) (m_got := m_got) (m_rowMany := m_rowMany) (m_charAt := m_charAt) (m_charWide := m_charWide) (m_trail := m_trail) (m_isMatch := m_isMatch) (m_matchGroups := m_matchGroups) (m_allFrom := m_allFrom) (m_allBefore := m_allBefore) (m_founds := m_founds) (m_pieces := m_pieces) (m_writtenMany := m_writtenMany) (m_templateWide := m_templateWide) (m_tooMuch := m_tooMuch) (A_tape := A_tape) (k := 0) h80 h84 (by omega) (by omega) jtp (by omega)) (fun oc G2 h => by rcases h with ⟨h, _⟩ | ⟨h, _⟩ <;> exact ⟨_, h⟩) (by omega) m_MO_here ml_MO_297 im_MO_here se_MO_here c_MO h80.2.2 (Nat.le_of_ble_eq_true rfl) d_MO_readClass_64 rfl ?_
      intro v G2 hq
      rcases hq with ⟨hv, hGe, hq3⟩ | ⟨hv, hGe, hq4⟩
      · cases hv
        rw [hGe]
        change ab_W _ _ _ G 67 [some (vR 80), some (vz wh), some (vz nt), some (vz bg)] [vz (A_tape (m_at + 0))] _
        refine zz_bipush d_MO_readClass_67 (by decide) ?_
        refine zz_icmp_ne (tgt := 76) d_MO_readClass_69 (by decide) (by omega) (by decide) (fun c5 => ?_) (fun c5 => ?_)
        · refine ab_aload_n d_MO_readClass_76 rfl ?_
          refine zz_iconst d_MO_readClass_77 ?_
          refine ab_callV (d' := d - 1) (as := [vz 0]) (st := []) (r := _) (z_MO_here (o := o) (m_thrown := m_thrown) (m_taped := m_taped) (m_length := m_length) (m_out := m_out) (m_wide := m_wide) (m_gathered := m_gathered) (m_sets := m_sets) (m_ranges := m_ranges) (m_nodes := m_nodes) (m_at := m_at) (m_flags := m_flags) (m_fault := m_fault) (m_place := m_place) (m_numbered := m_numbered) (m_depth := m_depth) (m_value := m_value) (m_isNot := m_isNot) (m_least0 := m_least0) (m_most0 := m_most0) (m_slot := m_slot) (m_work := m_work) (m_got := m_got) (m_rowMany := m_rowMany) (m_charAt := m_charAt) (m_charWide := m_charWide) (m_trail := m_trail) (m_isMatch := m_isMatch) (m_matchGroups := m_matchGroups) (m_allFrom := m_allFrom) (m_allBefore := m_allBefore) (m_founds := m_founds) (m_pieces := m_pieces) (m_writtenMany := m_writtenMany) (m_templateWide := m_templateWide) (m_tooMuch := m_tooMuch) (A_tape := A_tape) (k := 0) h80 h84 (by omega) (by omega) jtp (by omega)) (fun oc G2 h => by rcases h with ⟨h, _⟩ | ⟨h, _⟩ <;> exact ⟨_, h⟩) (by omega) m_MO_here ml_MO_297 im_MO_here se_MO_here c_MO h80.2.2 (Nat.le_of_ble_eq_true rfl) d_MO_readClass_78 rfl ?_
          intro v G6 hq
          rcases hq with ⟨hv, hGe, hq7⟩ | ⟨hv, hGe, hq8⟩
          · cases hv
            rw [hGe]
            change ab_W _ _ _ G 81 [some (vR 80), some (vz wh), some (vz nt), some (vz bg)] [vz (A_tape (m_at + 0))] _
            refine zz_if_ge (tgt := 93) d_MO_readClass_81 (by decide) (by omega) (fun c9 => ?_) (fun c9 => absurd c9 (by omega))
            refine ab_aload_n d_MO_readClass_93 rfl ?_
            refine ab_callV (d' := d - 1) (as := []) (st := []) (r := _) (z_MO_item (o := o) (m_thrown := m_thrown) (m_taped := m_taped) (m_length := m_length) (m_out := m_out) (m_wide := m_wide) (m_gathered := m_gathered) (m_sets := m_sets) (m_ranges := m_ranges) (m_nodes := m_nodes) (m_at := m_at) (m_flags := m_flags) (m_fault := m_fault) (m_place := m_place) (m_numbered := m_numbered) (m_depth := m_depth) (m_value := m_value) (m_isNot := m_isNot) (m_least0 := m_least0) (m_most0 := m_most0) (m_slot := m_slot) (m_work := m_work) (m_got := m_got) (m_rowMany := m_rowMany) (m_charAt := m_charAt) (m_charWide := m_charWide) (m_trail := m_trail) (m_isMatch := m_isMatch) (m_matchGroups := m_matchGroups) (m_allFrom := m_allFrom) (m_allBefore := m_allBefore) (m_founds := m_founds) (m_pieces := m_pieces) (m_writtenMany := m_writtenMany) (m_templateWide := m_templateWide) (m_tooMuch := m_tooMuch) (A_tape := A_tape) (LO := LO) (HI := HI) (MK := MK) (P := P) (mm := mq) h80 h84 h93 h87 h88 h81 h82 (by omega) (by omega) jtp (by omega) (by omega) (by omega) (by omega) jmk jc_ jl_ (by omega)) (fun oc G2 h => by rcases h with ⟨_, _, _, _, _, _, _, _, _, _, h, _⟩ | ⟨_, _, _, _, _, _, _, _, _, _, h, _⟩ <;> exact ⟨_, h⟩) (by omega) m_MO_item ml_MO_365 im_MO_item se_MO_item c_MO h80.2.2 (Nat.le_of_ble_eq_true rfl) d_MO_readClass_94 rfl ?_
            intro v G10 hq
            rcases hq with ⟨a211, f212, p213, v214, nt215, w216, g217, LO218, HI219, MK220, hv, hfk, hlk, hsk, hN80, hN87, hN88, hN93, hq21, hq22⟩ | ⟨a223, v224, nt225, w226, g227, m228, LO229, HI230, MK231, P232, hv, hfk, hlk, hsk, hN80, hN87, hN88, hN93, hq33, hq34, hq35, hq36⟩
            · cases hv
              have h84 := hfk.get h84 (by decide)
              have h81 := hfk.get h81 (by decide)
              have h82 := hfk.get h82 (by decide)
              have hfr := hfr.tr hfk (by decide)
              have hlen := hlk.trans hlen
              have hsl := hsk.trans hsl
              have h80 := hN80
              have h87 := hN87
              have h88 := hN88
              have h93 := hN93
              change ab_W _ _ _ G10 97 [some (vR 80), some (vz wh), some (vz nt), some (vz bg)] [] _
              refine zz_iconst d_MO_readClass_97 ?_
              refine ab_istore_n d_MO_readClass_98 (Nat.le_of_ble_eq_true rfl) (Nat.le_of_ble_eq_true rfl) rfl ?_
              change ab_W _ _ _ G10 99 [some (vR 80), some (vz wh), some (vz nt), some (vz 1)] [] _
              refine ab_goto (tgt := 55) d_MO_readClass_99 (by decide) ?_
              exact ih (m_at := a211) (m_fault := f212) (m_place := p213) (m_value := v214) (m_isNot := nt215) (m_wide := w216) (m_gathered := g217) (LO := LO218) (HI := HI219) (MK := MK220) (P := P) (bg := 1) (mq := mq) (ms := 0) h80 h84 h87 h88 h93 h81 h82 (by omega) (fun h => absurd h (by omega)) hq22 (fun h => absurd h (by omega)) (fun h => absurd h (by omega)) hfr hlen hsl (by omega) hk0
            · cases hv
              have h84 := hfk.get h84 (by decide)
              have h81 := hfk.get h81 (by decide)
              have h82 := hfk.get h82 (by decide)
              have hfr := hfr.tr hfk (by decide)
              have hlen := hlk.trans hlen
              have hsl := hsk.trans hsl
              have h80 := hN80
              have h87 := hN87
              have h88 := hN88
              have h93 := hN93
              change ab_W _ _ _ G10 97 [some (vR 80), some (vz wh), some (vz nt), some (vz bg)] [] _
              refine zz_iconst d_MO_readClass_97 ?_
              refine ab_istore_n d_MO_readClass_98 (Nat.le_of_ble_eq_true rfl) (Nat.le_of_ble_eq_true rfl) rfl ?_
              change ab_W _ _ _ G10 99 [some (vR 80), some (vz wh), some (vz nt), some (vz 1)] [] _
              refine ab_goto (tgt := 55) d_MO_readClass_99 (by decide) ?_
              exact ih (m_at := a223) (m_fault := m_fault) (m_place := m_place) (m_value := v224) (m_isNot := nt225) (m_wide := w226) (m_gathered := g227) (LO := LO229) (HI := HI230) (MK := MK231) (P := P232) (bg := 1) (mq := m228) (ms := (m_taped + 2 - a223)) h80 h84 h87 h88 h93 h81 h82 (by omega) (fun _ => by omega) hq34 (fun _ => hq35) (fun _ => hq36) hfr hlen hsl (by omega) hk0
          · cases hv
            rw [hGe]
            change ab_W _ _ _ G 81 [some (vR 80), some (vz wh), some (vz nt), some (vz bg)] [vz (-1)] _
            exfalso; omega
        · refine ab_iload_n d_MO_readClass_72 rfl ?_
          refine zz_if_ne (tgt := 102) d_MO_readClass_73 (by decide) (by omega) (fun c37 => ?_) (fun c37 => ?_)
          · refine ab_less (L' := [some (vR 80), some (vz wh), some (vz nt), none]) (fun i v h => by rcases i with _ | _ | _ | _ | i <;> first | exact h | (simp at h)) ?_
            exact hk0 _ _ _ _ _ _ _ _ mq _ _ _ P h80 h87 h88 h93 (by omega) (by intro hf_; omega) (by first | exact jmk | exact rgs_w jmk (by omega)) (by exact jc) (by exact jl) hfr hlen hsl
          · refine ab_aload_n d_MO_readClass_76 rfl ?_
            refine zz_iconst d_MO_readClass_77 ?_
            refine ab_callV (d' := d - 1) (as := [vz 0]) (st := []) (r := _) (z_MO_here (o := o) (m_thrown := m_thrown) (m_taped := m_taped) (m_length := m_length) (m_out := m_out) (m_wide := m_wide) (m_gathered := m_gathered) (m_sets := m_sets) (m_ranges := m_ranges) (m_nodes := m_nodes) (m_at := m_at) (m_flags := m_flags) (m_fault := m_fault) (m_place := m_place) (m_numbered := m_numbered) (m_depth := m_depth) (m_value := m_value) (m_isNot := m_isNot) (m_least0 := m_least0) (m_most0 := m_most0) (m_slot := m_slot) (m_work := m_work) (m_got := m_got) (m_rowMany := m_rowMany) (m_charAt := m_charAt) (m_charWide := m_charWide) (m_trail := m_trail) (m_isMatch := m_isMatch) (m_matchGroups := m_matchGroups) (m_allFrom := m_allFrom) (m_allBefore := m_allBefore) (m_founds := m_founds) (m_pieces := m_pieces) (m_writtenMany := m_writtenMany) (m_templateWide := m_templateWide) (m_tooMuch := m_tooMuch) (A_tape := A_tape) (k := 0) h80 h84 (by omega) (by omega) jtp (by omega)) (fun oc G2 h => by rcases h with ⟨h, _⟩ | ⟨h, _⟩ <;> exact ⟨_, h⟩) (by omega) m_MO_here ml_MO_297 im_MO_here se_MO_here c_MO h80.2.2 (Nat.le_of_ble_eq_true rfl) d_MO_readClass_78 rfl ?_
            intro v G38 hq
            rcases hq with ⟨hv, hGe, hq39⟩ | ⟨hv, hGe, hq40⟩
            · cases hv
              rw [hGe]
              change ab_W _ _ _ G 81 [some (vR 80), some (vz wh), some (vz nt), some (vz bg)] [vz (A_tape (m_at + 0))] _
              refine zz_if_ge (tgt := 93) d_MO_readClass_81 (by decide) (by omega) (fun c41 => ?_) (fun c41 => absurd c41 (by omega))
              refine ab_aload_n d_MO_readClass_93 rfl ?_
              refine ab_callV (d' := d - 1) (as := []) (st := []) (r := _) (z_MO_item (o := o) (m_thrown := m_thrown) (m_taped := m_taped) (m_length := m_length) (m_out := m_out) (m_wide := m_wide) (m_gathered := m_gathered) (m_sets := m_sets) (m_ranges := m_ranges) (m_nodes := m_nodes) (m_at := m_at) (m_flags := m_flags) (m_fault := m_fault) (m_place := m_place) (m_numbered := m_numbered) (m_depth := m_depth) (m_value := m_value) (m_isNot := m_isNot) (m_least0 := m_least0) (m_most0 := m_most0) (m_slot := m_slot) (m_work := m_work) (m_got := m_got) (m_rowMany := m_rowMany) (m_charAt := m_charAt) (m_charWide := m_charWide) (m_trail := m_trail) (m_isMatch := m_isMatch) (m_matchGroups := m_matchGroups) (m_allFrom := m_allFrom) (m_allBefore := m_allBefore) (m_founds := m_founds) (m_pieces := m_pieces) (m_writtenMany := m_writtenMany) (m_templateWide := m_templateWide) (m_tooMuch := m_tooMuch) (A_tape := A_tape) (LO := LO) (HI := HI) (MK := MK) (P := P) (mm := mq) h80 h84 h93 h87 h88 h81 h82 (by omega) (by omega) jtp (by omega) (by omega) (by omega) (by omega) jmk jc_ jl_ (by omega)) (fun oc G2 h => by rcases h with ⟨_, _, _, _, _, _, _, _, _, _, h, _⟩ | ⟨_, _, _, _, _, _, _, _, _, _, h, _⟩ <;> exact ⟨_, h⟩) (by omega) m_MO_item ml_MO_365 im_MO_item se_MO_item c_MO h80.2.2 (Nat.le_of_ble_eq_true rfl) d_MO_readClass_94 rfl ?_
              intro v G42 hq
              rcases hq with ⟨a243, f244, p245, v246, nt247, w248, g249, LO250, HI251, MK252, hv, hfk, hlk, hsk, hN80, hN87, hN88, hN93, hq53, hq54⟩ | ⟨a255, v256, nt257, w258, g259, m260, LO261, HI262, MK263, P264, hv, hfk, hlk, hsk, hN80, hN87, hN88, hN93, hq65, hq66, hq67, hq68⟩
              · cases hv
                have h84 := hfk.get h84 (by decide)
                have h81 := hfk.get h81 (by decide)
                have h82 := hfk.get h82 (by decide)
                have hfr := hfr.tr hfk (by decide)
                have hlen := hlk.trans hlen
                have hsl := hsk.trans hsl
                have h80 := hN80
                have h87 := hN87
                have h88 := hN88
                have h93 := hN93
                change ab_W _ _ _ G42 97 [some (vR 80), some (vz wh), some (vz nt), some (vz bg)] [] _
                refine zz_iconst d_MO_readClass_97 ?_
                refine ab_istore_n d_MO_readClass_98 (Nat.le_of_ble_eq_true rfl) (Nat.le_of_ble_eq_true rfl) rfl ?_
                change ab_W _ _ _ G42 99 [some (vR 80), some (vz wh), some (vz nt), some (vz 1)] [] _
                refine ab_goto (tgt := 55) d_MO_readClass_99 (by decide) ?_
                exact ih (m_at := a243) (m_fault := f244) (m_place := p245) (m_value := v246) (m_isNot := nt247) (m_wide := w248) (m_gathered := g249) (LO := LO250) (HI := HI251) (MK := MK252) (P := P) (bg := 1) (mq := mq) (ms := 0) h80 h84 h87 h88 h93 h81 h82 (by omega) (fun h => absurd h (by omega)) hq54 (fun h => absurd h (by omega)) (fun h => absurd h (by omega)) hfr hlen hsl (by omega) hk0
              · cases hv
                have h84 := hfk.get h84 (by decide)
                have h81 := hfk.get h81 (by decide)
                have h82 := hfk.get h82 (by decide)
                have hfr := hfr.tr hfk (by decide)
                have hlen := hlk.trans hlen
                have hsl := hsk.trans hsl
                have h80 := hN80
                have h87 := hN87
                have h88 := hN88
                have h93 := hN93
                change ab_W _ _ _ G42 97 [some (vR 80), some (vz wh), some (vz nt), some (vz bg)] [] _
                refine zz_iconst d_MO_readClass_97 ?_
                refine ab_istore_n d_MO_readClass_98 (Nat.le_of_ble_eq_true rfl) (Nat.le_of_ble_eq_true rfl) rfl ?_
                change ab_W _ _ _ G42 99 [some (vR 80), some (vz wh), some (vz nt), some (vz 1)] [] _
                refine ab_goto (tgt := 55) d_MO_readClass_99 (by decide) ?_
                exact ih (m_at := a255) (m_fault := m_fault) (m_place := m_place) (m_value := v256) (m_isNot := nt257) (m_wide := w258) (m_gathered := g259) (LO := LO261) (HI := HI262) (MK := MK263) (P := P264) (bg := 1) (mq := m260) (ms := (m_taped + 2 - a255)) h80 h84 h87 h88 h93 h81 h82 (by omega) (fun _ => by omega) hq66 (fun _ => hq67) (fun _ => hq68) hfr hlen hsl (by omega) hk0
            · cases hv
              rw [hGe]
              change ab_W _ _ _ G 81 [some (vR 80), some (vz wh), some (vz nt), some (vz bg)] [vz (-1)] _
              exfalso; omega
      · cases hv
        rw [hGe]
        change ab_W _ _ _ G 67 [some (vR 80), some (vz wh), some (vz nt), some (vz bg)] [vz (-1)] _
        refine zz_bipush d_MO_readClass_67 (by decide) ?_
        refine zz_icmp_ne (tgt := 76) d_MO_readClass_69 (by decide) (by decide) (by decide) (fun c69 => ?_) (fun c69 => absurd c69 (by decide))
        refine ab_aload_n d_MO_readClass_76 rfl ?_
        refine zz_iconst d_MO_readClass_77 ?_
        refine ab_callV (d' := d - 1) (as := [vz 0]) (st := []) (r := _) (z_MO_here (o := o) (m_thrown := m_thrown) (m_taped := m_taped) (m_length := m_length) (m_out := m_out) (m_wide := m_wide) (m_gathered := m_gathered) (m_sets := m_sets) (m_ranges := m_ranges) (m_nodes := m_nodes) (m_at := m_at) (m_flags := m_flags) (m_fault := m_fault) (m_place := m_place) (m_numbered := m_numbered) (m_depth := m_depth) (m_value := m_value) (m_isNot := m_isNot) (m_least0 := m_least0) (m_most0 := m_most0) (m_slot := m_slot) (m_work := m_work) (m_got := m_got) (m_rowMany := m_rowMany) (m_charAt := m_charAt) (m_charWide := m_charWide) (m_trail := m_trail) (m_isMatch := m_isMatch) (m_matchGroups := m_matchGroups) (m_allFrom := m_allFrom) (m_allBefore := m_allBefore) (m_founds := m_founds) (m_pieces := m_pieces) (m_writtenMany := m_writtenMany) (m_templateWide := m_templateWide) (m_tooMuch := m_tooMuch) (A_tape := A_tape) (k := 0) h80 h84 (by omega) (by omega) jtp (by omega)) (fun oc G2 h => by rcases h with ⟨h, _⟩ | ⟨h, _⟩ <;> exact ⟨_, h⟩) (by omega) m_MO_here ml_MO_297 im_MO_here se_MO_here c_MO h80.2.2 (Nat.le_of_ble_eq_true rfl) d_MO_readClass_78 rfl ?_
        intro v G70 hq
        rcases hq with ⟨hv, hGe, hq71⟩ | ⟨hv, hGe, hq72⟩
        · cases hv
          rw [hGe]
          change ab_W _ _ _ G 81 [some (vR 80), some (vz wh), some (vz nt), some (vz bg)] [vz (A_tape (m_at + 0))] _
          exfalso; omega
        · cases hv
          rw [hGe]
          change ab_W _ _ _ G 81 [some (vR 80), some (vz wh), some (vz nt), some (vz bg)] [vz (-1)] _
          refine zz_if_ge (tgt := 93) d_MO_readClass_81 (by decide) (by decide) (fun c73 => absurd c73 (by decide)) (fun c73 => ?_)
          refine ab_aload_n d_MO_readClass_84 rfl ?_
          refine zz_iconst d_MO_readClass_85 ?_
          refine ab_iload_n d_MO_readClass_86 rfl ?_
          refine ab_callV (d' := d - 1) (as := [vz 4, vz wh]) (st := []) (r := _) (z_MO_wrong (o := o) (m_thrown := m_thrown) (m_taped := m_taped) (m_length := m_length) (m_out := m_out) (m_wide := m_wide) (m_gathered := m_gathered) (m_sets := m_sets) (m_ranges := m_ranges) (m_nodes := m_nodes) (m_at := m_at) (m_flags := m_flags) (m_fault := m_fault) (m_place := m_place) (m_numbered := m_numbered) (m_depth := m_depth) (m_value := m_value) (m_isNot := m_isNot) (m_least0 := m_least0) (m_most0 := m_most0) (m_slot := m_slot) (m_work := m_work) (m_got := m_got) (m_rowMany := m_rowMany) (m_charAt := m_charAt) (m_charWide := m_charWide) (m_trail := m_trail) (m_isMatch := m_isMatch) (m_matchGroups := m_matchGroups) (m_allFrom := m_allFrom) (m_allBefore := m_allBefore) (m_founds := m_founds) (m_pieces := m_pieces) (m_writtenMany := m_writtenMany) (m_templateWide := m_templateWide) (m_tooMuch := m_tooMuch) (x := 4) (y := wh) h80 (by omega) (by omega)) (fun oc G2 h => by rcases h with ⟨_, _, h, _⟩ <;> exact ⟨_, h⟩) (by omega) m_MO_wrong ml_MO_304 im_MO_wrong se_MO_wrong c_MO h80.2.2 (Nat.le_of_ble_eq_true rfl) d_MO_readClass_87 rfl ?_
          intro v G74 hq
          rcases hq with ⟨f275, p276, hv, hfk, hlk, hsk, hN80, hq77⟩
          cases hv
          have h84 := hfk.get h84 (by decide)
          have h87 := hfk.get h87 (by decide)
          have h88 := hfk.get h88 (by decide)
          have h93 := hfk.get h93 (by decide)
          have h81 := hfk.get h81 (by decide)
          have h82 := hfk.get h82 (by decide)
          have hfr := hfr.tr hfk (by decide)
          have hlen := hlk.trans hlen
          have hsl := hsk.trans hsl
          have h80 := hN80
          change ab_W _ _ _ G74 90 [some (vR 80), some (vz wh), some (vz nt), some (vz bg)] [] _
          refine ab_goto (tgt := 97) d_MO_readClass_90 (by decide) ?_
          refine zz_iconst d_MO_readClass_97 ?_
          refine ab_istore_n d_MO_readClass_98 (Nat.le_of_ble_eq_true rfl) (Nat.le_of_ble_eq_true rfl) rfl ?_
          change ab_W _ _ _ G74 99 [some (vR 80), some (vz wh), some (vz nt), some (vz 1)] [] _
          refine ab_goto (tgt := 55) d_MO_readClass_99 (by decide) ?_
          exact ih (m_at := m_at) (m_fault := f275) (m_place := p276) (m_value := m_value) (m_isNot := m_isNot) (m_wide := m_wide) (m_gathered := m_gathered) (LO := LO) (HI := HI) (MK := MK) (P := P) (bg := 1) (mq := mq) (ms := 0) h80 h84 h87 h88 h93 h81 h82 (by omega) (fun h => absurd h (by omega)) jmk (fun h => absurd h (by omega)) (fun h => absurd h (by omega)) hfr hlen hsl (by omega) hk0
set_option maxRecDepth 100000 in
set_option maxHeartbeats 4000000 in
theorem z_MO_readClass {X : ab_X} {d : Nat} {o : Nat → Nat} {G : ab_G} {m_thrown : Int} {m_taped : Int} {m_length : Int} {m_out : Int} {m_wide : Int} {m_gathered : Int} {m_sets : Int} {m_ranges : Int} {m_nodes : Int} {m_at : Int} {m_flags : Int} {m_fault : Int} {m_place : Int} {m_numbered : Int} {m_depth : Int} {m_value : Int} {m_isNot : Int} {m_least0 : Int} {m_most0 : Int} {m_slot : Int} {m_work : Int} {m_got : Int} {m_rowMany : Int} {m_charAt : Int} {m_charWide : Int} {m_trail : Int} {m_isMatch : Int} {m_matchGroups : Int} {m_allFrom : Int} {m_allBefore : Int} {m_founds : Int} {m_pieces : Int} {m_writtenMany : Int} {m_templateWide : Int} {m_tooMuch : Int} {A_tape : Int → Int} {LO : Int → Int} {HI : Int → Int} {MK : Int → Int} {RL : Int → Int} {RH : Int → Int} {NS : Int → Int} {NM : Int → Int} (h80 : cc o G 80 280 (ab_ob 12 (mof m_thrown m_taped m_length m_out m_wide m_gathered m_sets m_ranges m_nodes m_at m_flags m_fault m_place m_numbered m_depth m_value m_isNot m_least0 m_most0 m_slot m_work m_got m_rowMany m_charAt m_charWide m_trail m_isMatch m_matchGroups m_allFrom m_allBefore m_founds m_pieces m_writtenMany m_templateWide m_tooMuch))) (h84 : cc o G 84 284 (za 2000 A_tape)) (h87 : cc o G 87 287 (za 9000 LO)) (h88 : cc o G 88 288 (za 9000 HI)) (h93 : cc o G 93 293 (zb 1200 MK)) (h81 : cc o G 81 281 (za 13 tbA)) (h82 : cc o G 82 282 (za 66 tbT)) (h91 : cc o G 91 291 (za 24000 RL)) (h92 : cc o G 92 292 (za 24000 RH)) (h110 : cc o G 110 310 (za 120 NS)) (h111 : cc o G 111 311 (za 10 NM)) (ptrI_0 : trI o G 0 m_nodes m_sets (m_depth + 1) (-1) 0 0) (n18 : ab_n0 = 18) (cta : 0 ≤ m_taped ∧ m_taped ≤ 2000) (jtp : rgs A_tape 2000 0 255) (jmk : rgs MK 1200 0 1) (jrl : rgs RL 24000 0 1114111) (jrh : rgs RH 24000 0 1114111) (jns : rgs NS 120 0 255) (jnm : rgs NM 10 0 12) (cf : m_fault = 0) (cat : 0 ≤ m_at ∧ m_at < m_taped) (cpo : 0 ≤ m_nodes ∧ m_nodes + 2 * m_depth + 0 ≤ 2 * m_at ∧ 0 ≤ m_sets ∧ m_sets + 0 ≤ m_at ∧ 0 ≤ m_ranges ∧ m_ranges + 0 ≤ 12 * m_at ∧ 0 ≤ m_depth ∧ m_depth ≤ 30 ∧ 0 ≤ m_numbered ∧ m_numbered ≤ 9 ∧ -2147483648 ≤ m_flags ∧ m_flags ≤ 2147483647 ∧ -2147483648 ≤ m_value ∧ m_value ≤ 2147483647) (hd : 7 ≤ d) : ab_F X d y_MO_readClass (.code y_MO_readClass b_MO_readClass 4 none) [vR 80] G (fun oc G2 => (∃ a2 : Int, ∃ v2 : Int, ∃ nt2 : Int, ∃ w2 : Int, ∃ g2 : Int, ∃ s2 : Int, ∃ r2 : Int, ∃ n2 : Int, ∃ fl2 : Int, ∃ nu2 : Int, ∃ d2 : Int, ∃ le2 : Int, ∃ mo2 : Int, ∃ f2 : Int, ∃ p2 : Int, ∃ LO2 : Int → Int, ∃ HI2 : Int → Int, ∃ MK2 : Int → Int, ∃ RL2 : Int → Int, ∃ RH2 : Int → Int, ∃ NS2 : Int → Int, ∃ NM2 : Int → Int, oc = .returned none ∧ fx o o [280, 287, 288, 293, 291, 292, 310, 311, 294, 295, 296, 297, 298, 299, 300, 301, 290, 289, 305, 306, 307, 308, 309, 302, 303, 304] G G2 ∧ G2.length = G.length ∧ ab_slots G2 = ab_slots G ∧ cc o G2 80 280 (ab_ob 12 (mof m_thrown m_taped m_length m_out w2 g2 s2 r2 n2 a2 fl2 f2 p2 nu2 d2 v2 nt2 le2 mo2 m_slot m_work m_got m_rowMany m_charAt m_charWide m_trail m_isMatch m_matchGroups m_allFrom m_allBefore m_founds m_pieces m_writtenMany m_templateWide m_tooMuch)) ∧ cc o G2 87 287 (za 9000 LO2) ∧ cc o G2 88 288 (za 9000 HI2) ∧ cc o G2 93 293 (zb 1200 MK2) ∧ cc o G2 91 291 (za 24000 RL2) ∧ cc o G2 92 292 (za 24000 RH2) ∧ cc o G2 110 310 (za 120 NS2) ∧ cc o G2 111 311 (za 10 NM2) ∧ trI o G2 0 n2 s2 (d2 + 1) (-1) 0 0 ∧ (f2 = 0 ∧ m_at < a2 ∧ a2 ≤ m_taped ∧ 0 ≤ n2 ∧ n2 + 2 * d2 ≤ 2 * a2 ∧ 0 ≤ s2 ∧ s2 ≤ a2 ∧ 0 ≤ r2 ∧ r2 ≤ 12 * a2 ∧ 0 ≤ d2 ∧ d2 ≤ 30 ∧ 0 ≤ nu2 ∧ nu2 ≤ 9 ∧ -2147483648 ≤ fl2 ∧ fl2 ≤ 2147483647 ∧ -2147483648 ≤ v2 ∧ v2 ≤ 2147483647) ∧ (rgs MK2 1200 0 1) ∧ (rgs RL2 24000 0 1114111) ∧ (rgs RH2 24000 0 1114111) ∧ (rgs NS2 120 0 255) ∧ (rgs NM2 10 0 12)) ∨ (∃ a2 : Int, ∃ v2 : Int, ∃ nt2 : Int, ∃ w2 : Int, ∃ g2 : Int, ∃ s2 : Int, ∃ r2 : Int, ∃ n2 : Int, ∃ fl2 : Int, ∃ nu2 : Int, ∃ d2 : Int, ∃ le2 : Int, ∃ mo2 : Int, ∃ f2 : Int, ∃ p2 : Int, ∃ LO2 : Int → Int, ∃ HI2 : Int → Int, ∃ MK2 : Int → Int, ∃ RL2 : Int → Int, ∃ RH2 : Int → Int, ∃ NS2 : Int → Int, ∃ NM2 : Int → Int, oc = .returned none ∧ fx o o [280, 287, 288, 293, 291, 292, 310, 311, 294, 295, 296, 297, 298, 299, 300, 301, 290, 289, 305, 306, 307, 308, 309, 302, 303, 304] G G2 ∧ G2.length = G.length ∧ ab_slots G2 = ab_slots G ∧ cc o G2 80 280 (ab_ob 12 (mof m_thrown m_taped m_length m_out w2 g2 s2 r2 n2 a2 fl2 f2 p2 nu2 d2 v2 nt2 le2 mo2 m_slot m_work m_got m_rowMany m_charAt m_charWide m_trail m_isMatch m_matchGroups m_allFrom m_allBefore m_founds m_pieces m_writtenMany m_templateWide m_tooMuch)) ∧ cc o G2 87 287 (za 9000 LO2) ∧ cc o G2 88 288 (za 9000 HI2) ∧ cc o G2 93 293 (zb 1200 MK2) ∧ cc o G2 91 291 (za 24000 RL2) ∧ cc o G2 92 292 (za 24000 RH2) ∧ cc o G2 110 310 (za 120 NS2) ∧ cc o G2 111 311 (za 10 NM2) ∧ trI o G2 0 n2 s2 (d2 + 1) (-1) 0 0 ∧ (1 ≤ f2 ∧ f2 ≤ 14 ∧ 0 ≤ a2 ∧ a2 ≤ 4000 ∧ 0 ≤ n2 ∧ n2 ≤ 4200 ∧ 0 ≤ s2 ∧ s2 ≤ 2100 ∧ 0 ≤ r2 ∧ r2 ≤ 24000 ∧ 0 ≤ d2 ∧ d2 ≤ 30 ∧ 0 ≤ nu2 ∧ nu2 ≤ 9 ∧ -2147483648 ≤ fl2 ∧ fl2 ≤ 2147483647 ∧ -2147483648 ≤ v2 ∧ v2 ≤ 2147483647) ∧ (rgs MK2 1200 0 1) ∧ (rgs RL2 24000 0 1114111) ∧ (rgs RH2 24000 0 1114111) ∧ (rgs NS2 120 0 255) ∧ (rgs NM2 10 0 12))) := by
  refine ab_F_of (by decide +kernel) (Nat.le_of_ble_eq_true rfl) ?_
  obtain ⟨Q, hQ⟩ : ∃ z : Outcome → ab_G → Prop, z = (fun oc G2 => (∃ a2 : Int, ∃ v2 : Int, ∃ nt2 : Int, ∃ w2 : Int, ∃ g2 : Int, ∃ s2 : Int, ∃ r2 : Int, ∃ n2 : Int, ∃ fl2 : Int, ∃ nu2 : Int, ∃ d2 : Int, ∃ le2 : Int, ∃ mo2 : Int, ∃ f2 : Int, ∃ p2 : Int, ∃ LO2 : Int → Int, ∃ HI2 : Int → Int, ∃ MK2 : Int → Int, ∃ RL2 : Int → Int, ∃ RH2 : Int → Int, ∃ NS2 : Int → Int, ∃ NM2 : Int → Int, oc = .returned none ∧ fx o o [280, 287, 288, 293, 291, 292, 310, 311, 294, 295, 296, 297, 298, 299, 300, 301, 290, 289, 305, 306, 307, 308, 309, 302, 303, 304] G G2 ∧ G2.length = G.length ∧ ab_slots G2 = ab_slots G ∧ cc o G2 80 280 (ab_ob 12 (mof m_thrown m_taped m_length m_out w2 g2 s2 r2 n2 a2 fl2 f2 p2 nu2 d2 v2 nt2 le2 mo2 m_slot m_work m_got m_rowMany m_charAt m_charWide m_trail m_isMatch m_matchGroups m_allFrom m_allBefore m_founds m_pieces m_writtenMany m_templateWide m_tooMuch)) ∧ cc o G2 87 287 (za 9000 LO2) ∧ cc o G2 88 288 (za 9000 HI2) ∧ cc o G2 93 293 (zb 1200 MK2) ∧ cc o G2 91 291 (za 24000 RL2) ∧ cc o G2 92 292 (za 24000 RH2) ∧ cc o G2 110 310 (za 120 NS2) ∧ cc o G2 111 311 (za 10 NM2) ∧ trI o G2 0 n2 s2 (d2 + 1) (-1) 0 0 ∧ (f2 = 0 ∧ m_at < a2 ∧ a2 ≤ m_taped ∧ 0 ≤ n2 ∧ n2 + 2 * d2 ≤ 2 * a2 ∧ 0 ≤ s2 ∧ s2 ≤ a2 ∧ 0 ≤ r2 ∧ r2 ≤ 12 * a2 ∧ 0 ≤ d2 ∧ d2 ≤ 30 ∧ 0 ≤ nu2 ∧ nu2 ≤ 9 ∧ -2147483648 ≤ fl2 ∧ fl2 ≤ 2147483647 ∧ -2147483648 ≤ v2 ∧ v2 ≤ 2147483647) ∧ (rgs MK2 1200 0 1) ∧ (rgs RL2 24000 0 1114111) ∧ (rgs RH2 24000 0 1114111) ∧ (rgs NS2 120 0 255) ∧ (rgs NM2 10 0 12)) ∨ (∃ a2 : Int, ∃ v2 : Int, ∃ nt2 : Int, ∃ w2 : Int, ∃ g2 : Int, ∃ s2 : Int, ∃ r2 : Int, ∃ n2 : Int, ∃ fl2 : Int, ∃ nu2 : Int, ∃ d2 : Int, ∃ le2 : Int, ∃ mo2 : Int, ∃ f2 : Int, ∃ p2 : Int, ∃ LO2 : Int → Int, ∃ HI2 : Int → Int, ∃ MK2 : Int → Int, ∃ RL2 : Int → Int, ∃ RH2 : Int → Int, ∃ NS2 : Int → Int, ∃ NM2 : Int → Int, oc = .returned none ∧ fx o o [280, 287, 288, 293, 291, 292, 310, 311, 294, 295, 296, 297, 298, 299, 300, 301, 290, 289, 305, 306, 307, 308, 309, 302, 303, 304] G G2 ∧ G2.length = G.length ∧ ab_slots G2 = ab_slots G ∧ cc o G2 80 280 (ab_ob 12 (mof m_thrown m_taped m_length m_out w2 g2 s2 r2 n2 a2 fl2 f2 p2 nu2 d2 v2 nt2 le2 mo2 m_slot m_work m_got m_rowMany m_charAt m_charWide m_trail m_isMatch m_matchGroups m_allFrom m_allBefore m_founds m_pieces m_writtenMany m_templateWide m_tooMuch)) ∧ cc o G2 87 287 (za 9000 LO2) ∧ cc o G2 88 288 (za 9000 HI2) ∧ cc o G2 93 293 (zb 1200 MK2) ∧ cc o G2 91 291 (za 24000 RL2) ∧ cc o G2 92 292 (za 24000 RH2) ∧ cc o G2 110 310 (za 120 NS2) ∧ cc o G2 111 311 (za 10 NM2) ∧ trI o G2 0 n2 s2 (d2 + 1) (-1) 0 0 ∧ (1 ≤ f2 ∧ f2 ≤ 14 ∧ 0 ≤ a2 ∧ a2 ≤ 4000 ∧ 0 ≤ n2 ∧ n2 ≤ 4200 ∧ 0 ≤ s2 ∧ s2 ≤ 2100 ∧ 0 ≤ r2 ∧ r2 ≤ 24000 ∧ 0 ≤ d2 ∧ d2 ≤ 30 ∧ 0 ≤ nu2 ∧ nu2 ≤ 9 ∧ -2147483648 ≤ fl2 ∧ fl2 ≤ 2147483647 ∧ -2147483648 ≤ v2 ∧ v2 ≤ 2147483647) ∧ (rgs MK2 1200 0 1) ∧ (rgs RL2 24000 0 1114111) ∧ (rgs RH2 24000 0 1114111) ∧ (rgs NS2 120 0 255) ∧ (rgs NM2 10 0 12))) := ⟨_, rfl⟩
  rw [← hQ]
  change ab_W X (ab_pl y_MO_readClass b_MO_readClass 4 none) d G 0 [some (vR 80), none, none, none] [] Q
  have hfr : fx o o [280, 287, 288, 293, 291, 292, 310, 311, 294, 295, 296, 297, 298, 299, 300, 301, 290, 289, 305, 306, 307, 308, 309, 302, 303, 304] G G := fx.rf
  have hlen : G.length = G.length := rfl
  have hsl : ab_slots G = ab_slots G := rfl
  refine ab_aload_n d_MO_readClass_0 rfl ?_
  refine ab_getf (fs := mof m_thrown m_taped m_length m_out m_wide m_gathered m_sets m_ranges m_nodes m_at m_flags m_fault m_place m_numbered m_depth m_value m_isNot m_least0 m_most0 m_slot m_work m_got m_rowMany m_charAt m_charWide m_trail m_isMatch m_matchGroups m_allFrom m_allBefore m_founds m_pieces m_writtenMany m_templateWide m_tooMuch) f_MO_279 d_MO_readClass_1 h80.2.2 rfl ?_
  refine ab_istore_n d_MO_readClass_4 (Nat.le_of_ble_eq_true rfl) (Nat.le_of_ble_eq_true rfl) rfl ?_
  change ab_W _ _ _ G 5 [some (vR 80), some (vz m_at), none, none] [] _
  refine ab_aload_n d_MO_readClass_5 rfl ?_
  refine ab_dup d_MO_readClass_6 rfl ?_
  refine ab_getf (fs := mof m_thrown m_taped m_length m_out m_wide m_gathered m_sets m_ranges m_nodes m_at m_flags m_fault m_place m_numbered m_depth m_value m_isNot m_least0 m_most0 m_slot m_work m_got m_rowMany m_charAt m_charWide m_trail m_isMatch m_matchGroups m_allFrom m_allBefore m_founds m_pieces m_writtenMany m_templateWide m_tooMuch) f_MO_279 d_MO_readClass_7 h80.2.2 rfl ?_
  refine zz_iconst d_MO_readClass_10 ?_
  refine zz_iadd d_MO_readClass_11 ?_
  refine ab_putf (fs := mof m_thrown m_taped m_length m_out m_wide m_gathered m_sets m_ranges m_nodes m_at m_flags m_fault m_place m_numbered m_depth m_value m_isNot m_least0 m_most0 m_slot m_work m_got m_rowMany m_charAt m_charWide m_trail m_isMatch m_matchGroups m_allFrom m_allBefore m_founds m_pieces m_writtenMany m_templateWide m_tooMuch) f_MO_279 (Or.inl rfl) d_MO_readClass_12 h80.2.2 (Nat.le_of_ble_eq_true rfl) (fun _ => ⟨rfl, rfl⟩) (h80.2.1 (by decide)) ?_
  obtain ⟨G1, eG1⟩ : ∃ z : ab_G, z = List.set G 80 (ab_ob 12 (mof m_thrown m_taped m_length m_out m_wide m_gathered m_sets m_ranges m_nodes (m_at + 1) m_flags m_fault m_place m_numbered m_depth m_value m_isNot m_least0 m_most0 m_slot m_work m_got m_rowMany m_charAt m_charWide m_trail m_isMatch m_matchGroups m_allFrom m_allBefore m_founds m_pieces m_writtenMany m_templateWide m_tooMuch)) := ⟨_, rfl⟩
  have h84 := h84.keep h80 eG1 (by decide)
  have h87 := h87.keep h80 eG1 (by decide)
  have h88 := h88.keep h80 eG1 (by decide)
  have h93 := h93.keep h80 eG1 (by decide)
  have h81 := h81.keep h80 eG1 (by decide)
  have h82 := h82.keep h80 eG1 (by decide)
  have h91 := h91.keep h80 eG1 (by decide)
  have h92 := h92.keep h80 eG1 (by decide)
  have h110 := h110.keep h80 eG1 (by decide)
  have h111 := h111.keep h80 eG1 (by decide)
  have hst := (fx.rf (o := o) (S := [280]) (G := G)).wr h80 eG1 (List.mem_singleton.mpr rfl)
  have ptrI_0 := trI.fr hst ptrI_0 (by decide) (by decide) (by decide) (by decide) (by decide) (by decide) (by decide) (by decide) (by decide) (by decide) (by decide) (by decide) (by decide) (by decide) (by decide) (by decide) (by decide) (by decide)
  have hlen := (z_len eG1).trans hlen
  have hsl := (z_sl h80 eG1 rfl).trans hsl
  have hfr := hfr.wr h80 eG1 (by decide)
  have h80 := h80.kept eG1
  change ab_W _ _ _ (List.set G 80 (ab_ob 12 (mof m_thrown m_taped m_length m_out m_wide m_gathered m_sets m_ranges m_nodes (m_at + 1) m_flags m_fault m_place m_numbered m_depth m_value m_isNot m_least0 m_most0 m_slot m_work m_got m_rowMany m_charAt m_charWide m_trail m_isMatch m_matchGroups m_allFrom m_allBefore m_founds m_pieces m_writtenMany m_templateWide m_tooMuch))) 15 [some (vR 80), some (vz m_at), none, none] [] _
  rw [← eG1]
  refine ab_aload_n d_MO_readClass_15 rfl ?_
  refine zz_iconst d_MO_readClass_16 ?_
  refine ab_callV (d' := d - 1) (as := [vz 0]) (st := []) (r := _) (z_MO_here (o := o) (m_thrown := m_thrown) (m_taped := m_taped) (m_length := m_length) (m_out := m_out) (m_wide := m_wide) (m_gathered := m_gathered) (m_sets := m_sets) (m_ranges := m_ranges) (m_nodes := m_nodes) (m_at := (m_at + 1)) (m_flags := m_flags) (m_fault := m_fault) (m_place := m_place) (m_numbered := m_numbered) (m_depth := m_depth) (m_value := m_value) (m_isNot := m_isNot) (m_least0 := m_least0) (m_most0 := m_most0) (m_slot := m_slot) (m_work := m_work) (m_got := m_got) (m_rowMany := m_rowMany) (m_charAt := m_charAt) (m_charWide := m_charWide) (m_trail := m_trail) (m_isMatch := m_isMatch) (m_matchGroups := m_matchGroups) (m_allFrom := m_allFrom) (m_allBefore := m_allBefore) (m_founds := m_founds) (m_pieces := m_pieces) (m_writtenMany := m_writtenMany) (m_templateWide := m_templateWide) (m_tooMuch := m_tooMuch) (A_tape := A_tape) (k := 0) h80 h84 (by omega) (by omega) jtp (by omega)) (fun oc G2 h => by rcases h with ⟨h, _⟩ | ⟨h, _⟩ <;> exact ⟨_, h⟩) (by omega) m_MO_here ml_MO_297 im_MO_here se_MO_here c_MO h80.2.2 (Nat.le_of_ble_eq_true rfl) d_MO_readClass_17 rfl ?_
  intro v G2 hq
  rcases hq with ⟨hv, hGe, hq3⟩ | ⟨hv, hGe, hq4⟩
  · cases hv
    rw [hGe]
    change ab_W _ _ _ G1 20 [some (vR 80), some (vz m_at), none, none] [vz (A_tape ((m_at + 1) + 0))] _
    refine zz_bipush d_MO_readClass_20 (by decide) ?_
    refine zz_icmp_ne (tgt := 29) d_MO_readClass_22 (by decide) (by omega) (by decide) (fun c5 => ?_) (fun c5 => ?_)
    · refine zz_iconst d_MO_readClass_29 ?_
      refine ab_istore_n d_MO_readClass_30 (Nat.le_of_ble_eq_true rfl) (Nat.le_of_ble_eq_true rfl) rfl ?_
      change ab_W _ _ _ G1 31 [some (vR 80), some (vz m_at), some (vz 0), none] [] _
      refine ab_aload_n d_MO_readClass_31 rfl ?_
      refine ab_dup d_MO_readClass_32 rfl ?_
      refine ab_getf (fs := mof m_thrown m_taped m_length m_out m_wide m_gathered m_sets m_ranges m_nodes (m_at + 1) m_flags m_fault m_place m_numbered m_depth m_value m_isNot m_least0 m_most0 m_slot m_work m_got m_rowMany m_charAt m_charWide m_trail m_isMatch m_matchGroups m_allFrom m_allBefore m_founds m_pieces m_writtenMany m_templateWide m_tooMuch) f_MO_279 d_MO_readClass_33 h80.2.2 rfl ?_
      refine ab_iload_n d_MO_readClass_36 rfl ?_
      refine zz_if_eq (tgt := 44) d_MO_readClass_37 (by decide) (by decide) (fun c6 => ?_) (fun c6 => absurd c6 (by decide))
      refine zz_iconst d_MO_readClass_44 ?_
      refine zz_iadd d_MO_readClass_45 ?_
      refine ab_putf (fs := mof m_thrown m_taped m_length m_out m_wide m_gathered m_sets m_ranges m_nodes (m_at + 1) m_flags m_fault m_place m_numbered m_depth m_value m_isNot m_least0 m_most0 m_slot m_work m_got m_rowMany m_charAt m_charWide m_trail m_isMatch m_matchGroups m_allFrom m_allBefore m_founds m_pieces m_writtenMany m_templateWide m_tooMuch) f_MO_279 (Or.inl rfl) d_MO_readClass_46 h80.2.2 (Nat.le_of_ble_eq_true rfl) (fun _ => ⟨rfl, rfl⟩) (h80.2.1 (by decide)) ?_
      obtain ⟨G7, eG7⟩ : ∃ z : ab_G, z = List.set G1 80 (ab_ob 12 (mof m_thrown m_taped m_length m_out m_wide m_gathered m_sets m_ranges m_nodes ((m_at + 1) + 0) m_flags m_fault m_place m_numbered m_depth m_value m_isNot m_least0 m_most0 m_slot m_work m_got m_rowMany m_charAt m_charWide m_trail m_isMatch m_matchGroups m_allFrom m_allBefore m_founds m_pieces m_writtenMany m_templateWide m_tooMuch)) := ⟨_, rfl⟩
      have h84 := h84.keep h80 eG7 (by decide)
      have h87 := h87.keep h80 eG7 (by decide)
      have h88 := h88.keep h80 eG7 (by decide)
      have h93 := h93.keep h80 eG7 (by decide)
      have h81 := h81.keep h80 eG7 (by decide)
      have h82 := h82.keep h80 eG7 (by decide)
      have h91 := h91.keep h80 eG7 (by decide)
      have h92 := h92.keep h80 eG7 (by decide)
      have h110 := h110.keep h80 eG7 (by decide)
      have h111 := h111.keep h80 eG7 (by decide)
      have hst := (fx.rf (o := o) (S := [280]) (G := G1)).wr h80 eG7 (List.mem_singleton.mpr rfl)
      have ptrI_0 := trI.fr hst ptrI_0 (by decide) (by decide) (by decide) (by decide) (by decide) (by decide) (by decide) (by decide) (by decide) (by decide) (by decide) (by decide) (by decide) (by decide) (by decide) (by decide) (by decide) (by decide)
      have hlen := (z_len eG7).trans hlen
      have hsl := (z_sl h80 eG7 rfl).trans hsl
      have hfr := hfr.wr h80 eG7 (by decide)
      have h80 := h80.kept eG7
      change ab_W _ _ _ (List.set G1 80 (ab_ob 12 (mof m_thrown m_taped m_length m_out m_wide m_gathered m_sets m_ranges m_nodes ((m_at + 1) + 0) m_flags m_fault m_place m_numbered m_depth m_value m_isNot m_least0 m_most0 m_slot m_work m_got m_rowMany m_charAt m_charWide m_trail m_isMatch m_matchGroups m_allFrom m_allBefore m_founds m_pieces m_writtenMany m_templateWide m_tooMuch))) 49 [some (vR 80), some (vz m_at), some (vz 0), none] [] _
      rw [← eG7]
      refine ab_aload_n d_MO_readClass_49 rfl ?_
      refine ab_callV (d' := d - 1) (as := []) (st := []) (r := _) (z_MO_begin (o := o) (m_thrown := m_thrown) (m_taped := m_taped) (m_length := m_length) (m_out := m_out) (m_wide := m_wide) (m_gathered := m_gathered) (m_sets := m_sets) (m_ranges := m_ranges) (m_nodes := m_nodes) (m_at := ((m_at + 1) + 0)) (m_flags := m_flags) (m_fault := m_fault) (m_place := m_place) (m_numbered := m_numbered) (m_depth := m_depth) (m_value := m_value) (m_isNot := m_isNot) (m_least0 := m_least0) (m_most0 := m_most0) (m_slot := m_slot) (m_work := m_work) (m_got := m_got) (m_rowMany := m_rowMany) (m_charAt := m_charAt) (m_charWide := m_charWide) (m_trail := m_trail) (m_isMatch := m_isMatch) (m_matchGroups := m_matchGroups) (m_allFrom := m_allFrom) (m_allBefore := m_allBefore) (m_founds := m_founds) (m_pieces := m_pieces) (m_writtenMany := m_writtenMany) (m_templateWide := m_templateWide) (m_tooMuch := m_tooMuch) (LO := LO) (HI := HI) (MK := MK) h80 h93 h87 h88 (by omega) jmk (by omega)) (fun oc G2 h => by rcases h with ⟨_, h, _⟩ <;> exact ⟨_, h⟩) (by omega) m_MO_begin ml_MO_362 im_MO_begin se_MO_begin c_MO h80.2.2 (Nat.le_of_ble_eq_true rfl) d_MO_readClass_50 rfl ?_
      intro v G8 hq
      rcases hq with ⟨MK29, hv, hfk, hlk, hsk, hN80, hN93, hq10, hq11⟩
      cases hv
      have h84 := hfk.get h84 (by decide)
      have h87 := hfk.get h87 (by decide)
      have h88 := hfk.get h88 (by decide)
      have h81 := hfk.get h81 (by decide)
      have h82 := hfk.get h82 (by decide)
      have h91 := hfk.get h91 (by decide)
      have h92 := hfk.get h92 (by decide)
      have h110 := hfk.get h110 (by decide)
      have h111 := hfk.get h111 (by decide)
      have ptrI_0 := trI.fr hfk ptrI_0 (by decide) (by decide) (by decide) (by decide) (by decide) (by decide) (by decide) (by decide) (by decide) (by decide) (by decide) (by decide) (by decide) (by decide) (by decide) (by decide) (by decide) (by decide)
      have hfr := hfr.tr hfk (by decide)
      have hlen := hlk.trans hlen
      have hsl := hsk.trans hsl
      have h80 := hN80
      have h93 := hN93
      change ab_W _ _ _ G8 53 [some (vR 80), some (vz m_at), some (vz 0), none] [] _
      refine zz_iconst d_MO_readClass_53 ?_
      refine ab_istore_n d_MO_readClass_54 (Nat.le_of_ble_eq_true rfl) (Nat.le_of_ble_eq_true rfl) rfl ?_
      change ab_W _ _ _ G8 55 [some (vR 80), some (vz m_at), some (vz 0), some (vz 0)] [] _
      refine y_MO_readClass_55 (m_thrown := m_thrown) (m_taped := m_taped) (m_length := m_length) (m_out := m_out) (m_sets := m_sets) (m_ranges := m_ranges) (m_nodes := m_nodes) (m_flags := m_flags) (m_numbered := m_numbered) (m_depth := m_depth) (m_least0 := m_least0) (m_most0 := m_most0) (m_slot := m_slot) (m_work := m_work) (m_got := m_got) (m_rowMany := m_rowMany) (m_charAt := m_charAt) (m_charWide := m_charWide) (m_trail := m_trail) (m_isMatch := m_isMatch) (m_matchGroups := m_matchGroups) (m_allFrom := m_allFrom) (m_allBefore := m_allBefore) (m_founds := m_founds) (m_pieces := m_pieces) (m_writtenMany := m_writtenMany) (m_templateWide := m_templateWide) (m_tooMuch := m_tooMuch) (A_tape := A_tape) (wh := m_at) (nt := 0) (a0 := ((m_at + 1) + 0)) (G0 := G8) (m_at := ((m_at + 1) + 0)) (m_fault := m_fault) (m_place := m_place) (m_value := m_value) (m_isNot := m_isNot) (m_wide := m_wide) (m_gathered := 0) (LO := LO) (HI := HI) (MK := MK29) (P := (fun _ => False)) (bg := 0) (mq := 0) (ms := (m_taped + 2 - ((m_at + 1) + 0))) (by omega) (by omega) jtp (by omega) (by omega) (Int.toNat (m_taped + 2 - ((m_at + 1) + 0)) + 1) h80 h84 h87 h88 h93 h81 h82 (by omega) (fun _ => by omega) hq10 (fun _ => hq11) (fun _ => lfc_0 (fun _ h => h)) fx.rf rfl rfl (by omega) (fun G12 a213 f214 p215 v216 nt217 w218 g219 m220 LO221 HI222 MK223 P224 hN80 hN87 hN88 hN93 hq25 hq26 hq27 hq28 hq29 hfk hlk hsk => ?_)
      · have h84 := hfk.get h84 (by decide)
        have h81 := hfk.get h81 (by decide)
        have h82 := hfk.get h82 (by decide)
        have h91 := hfk.get h91 (by decide)
        have h92 := hfk.get h92 (by decide)
        have h110 := hfk.get h110 (by decide)
        have h111 := hfk.get h111 (by decide)
        have ptrI_0 := trI.fr hfk ptrI_0 (by decide) (by decide) (by decide) (by decide) (by decide) (by decide) (by decide) (by decide) (by decide) (by decide) (by decide) (by decide) (by decide) (by decide) (by decide) (by decide) (by decide) (by decide)
        have hfr := hfr.tr hfk (by decide)
        have hlen := hlk.trans hlen
        have hsl := hsk.trans hsl
        have h80 := hN80
        have h87 := hN87
        have h88 := hN88
        have h93 := hN93
        change ab_W _ _ _ G12 102 [some (vR 80), some (vz m_at), some (vz 0), none] [] _
        refine ab_aload_n d_MO_readClass_102 rfl ?_
        refine ab_getf (fs := mof m_thrown m_taped m_length m_out w218 g219 m_sets m_ranges m_nodes a213 m_flags f214 p215 m_numbered m_depth v216 nt217 m_least0 m_most0 m_slot m_work m_got m_rowMany m_charAt m_charWide m_trail m_isMatch m_matchGroups m_allFrom m_allBefore m_founds m_pieces m_writtenMany m_templateWide m_tooMuch) f_MO_273 d_MO_readClass_103 h80.2.2 rfl ?_
        refine zz_if_le (tgt := 110) d_MO_readClass_106 (by decide) (by omega) (fun c30 => ?_) (fun c30 => ?_)
        · have hcj_ := hq26 (by omega)
          have hcc_ := hq28 (by omega)
          have hll_ := hq29 (by omega)
          obtain ⟨K, O, Fi, Be, Le, Mo, Z, LZ, SM, SA, QF, QL, AF, AL, SD, OA, OF, ON, h94, h95, h96, h97, h98, h99, h100, h101, h90, h89, h105, h106, h107, h108, h109, h102, h103, h104, jk, jo, jfi, jbe, jle, jmo, jz, jlz, jsm, jsa, jqf, jql, jaf, jal, jsd, joa, jof, jon, jt, cnd, cre, crs, crz, ck5, ck6, jss⟩ := ptrI_0
          refine ab_aload_n d_MO_readClass_110 rfl ?_
          refine ab_dup d_MO_readClass_111 rfl ?_
          refine ab_getf (fs := mof m_thrown m_taped m_length m_out w218 g219 m_sets m_ranges m_nodes a213 m_flags f214 p215 m_numbered m_depth v216 nt217 m_least0 m_most0 m_slot m_work m_got m_rowMany m_charAt m_charWide m_trail m_isMatch m_matchGroups m_allFrom m_allBefore m_founds m_pieces m_writtenMany m_templateWide m_tooMuch) f_MO_279 d_MO_readClass_112 h80.2.2 rfl ?_
          refine zz_iconst d_MO_readClass_115 ?_
          refine zz_iadd d_MO_readClass_116 ?_
          refine ab_putf (fs := mof m_thrown m_taped m_length m_out w218 g219 m_sets m_ranges m_nodes a213 m_flags f214 p215 m_numbered m_depth v216 nt217 m_least0 m_most0 m_slot m_work m_got m_rowMany m_charAt m_charWide m_trail m_isMatch m_matchGroups m_allFrom m_allBefore m_founds m_pieces m_writtenMany m_templateWide m_tooMuch) f_MO_279 (Or.inl rfl) d_MO_readClass_117 h80.2.2 (Nat.le_of_ble_eq_true rfl) (fun _ => ⟨rfl, rfl⟩) (h80.2.1 (by decide)) ?_
          obtain ⟨G31, eG31⟩ : ∃ z : ab_G, z = List.set G12 80 (ab_ob 12 (mof m_thrown m_taped m_length m_out w218 g219 m_sets m_ranges m_nodes (a213 + 1) m_flags f214 p215 m_numbered m_depth v216 nt217 m_least0 m_most0 m_slot m_work m_got m_rowMany m_charAt m_charWide m_trail m_isMatch m_matchGroups m_allFrom m_allBefore m_founds m_pieces m_writtenMany m_templateWide m_tooMuch)) := ⟨_, rfl⟩
          have h84 := h84.keep h80 eG31 (by decide)
          have h87 := h87.keep h80 eG31 (by decide)
          have h88 := h88.keep h80 eG31 (by decide)
          have h93 := h93.keep h80 eG31 (by decide)
          have h81 := h81.keep h80 eG31 (by decide)
          have h82 := h82.keep h80 eG31 (by decide)
          have h91 := h91.keep h80 eG31 (by decide)
          have h92 := h92.keep h80 eG31 (by decide)
          have h110 := h110.keep h80 eG31 (by decide)
          have h111 := h111.keep h80 eG31 (by decide)
          have h94 := h94.keep h80 eG31 (by decide)
          have h95 := h95.keep h80 eG31 (by decide)
          have h96 := h96.keep h80 eG31 (by decide)
          have h97 := h97.keep h80 eG31 (by decide)
          have h98 := h98.keep h80 eG31 (by decide)
          have h99 := h99.keep h80 eG31 (by decide)
          have h100 := h100.keep h80 eG31 (by decide)
          have h101 := h101.keep h80 eG31 (by decide)
          have h90 := h90.keep h80 eG31 (by decide)
          have h89 := h89.keep h80 eG31 (by decide)
          have h105 := h105.keep h80 eG31 (by decide)
          have h106 := h106.keep h80 eG31 (by decide)
          have h107 := h107.keep h80 eG31 (by decide)
          have h108 := h108.keep h80 eG31 (by decide)
          have h109 := h109.keep h80 eG31 (by decide)
          have h102 := h102.keep h80 eG31 (by decide)
          have h103 := h103.keep h80 eG31 (by decide)
          have h104 := h104.keep h80 eG31 (by decide)
          have hlen := (z_len eG31).trans hlen
          have hsl := (z_sl h80 eG31 rfl).trans hsl
          have hfr := hfr.wr h80 eG31 (by decide)
          have h80 := h80.kept eG31
          change ab_W _ _ _ (List.set G12 80 (ab_ob 12 (mof m_thrown m_taped m_length m_out w218 g219 m_sets m_ranges m_nodes (a213 + 1) m_flags f214 p215 m_numbered m_depth v216 nt217 m_least0 m_most0 m_slot m_work m_got m_rowMany m_charAt m_charWide m_trail m_isMatch m_matchGroups m_allFrom m_allBefore m_founds m_pieces m_writtenMany m_templateWide m_tooMuch))) 120 [some (vR 80), some (vz m_at), some (vz 0), none] [] _
          rw [← eG31]
          refine ab_aload_n d_MO_readClass_120 rfl ?_
          refine ab_aload_n d_MO_readClass_121 rfl ?_
          refine ab_aload_n d_MO_readClass_122 rfl ?_
          refine ab_iload_n d_MO_readClass_123 rfl ?_
          refine ab_callV (d' := d - 1) (as := [vz 0]) (st := [vR 80, vR 80]) (r := _) (z_MO_close (o := o) (m_thrown := m_thrown) (m_taped := m_taped) (m_length := m_length) (m_out := m_out) (m_wide := w218) (m_gathered := g219) (m_sets := m_sets) (m_ranges := m_ranges) (m_nodes := m_nodes) (m_at := (a213 + 1)) (m_flags := m_flags) (m_fault := f214) (m_place := p215) (m_numbered := m_numbered) (m_depth := m_depth) (m_value := v216) (m_isNot := nt217) (m_least0 := m_least0) (m_most0 := m_most0) (m_slot := m_slot) (m_work := m_work) (m_got := m_got) (m_rowMany := m_rowMany) (m_charAt := m_charAt) (m_charWide := m_charWide) (m_trail := m_trail) (m_isMatch := m_isMatch) (m_matchGroups := m_matchGroups) (m_allFrom := m_allFrom) (m_allBefore := m_allBefore) (m_founds := m_founds) (m_pieces := m_pieces) (m_writtenMany := m_writtenMany) (m_templateWide := m_templateWide) (m_tooMuch := m_tooMuch) (LO := LO221) (HI := HI222) (MK := MK223) (RL := RL) (RH := RH) (SA := SA) (SM := SM) (P := P224) (nt := 0) (mm := m220) h80 h87 h88 h93 h91 h92 h89 h90 (by omega) hq27 (by omega) hcc_ hll_ jrl jrh (by omega)) (fun oc G2 h => by rcases h with ⟨_, _, _, _, _, _, h, _⟩ <;> exact ⟨_, h⟩) (by omega) m_MO_close ml_MO_368 im_MO_close se_MO_close c_MO h80.2.2 (Nat.le_of_ble_eq_true rfl) d_MO_readClass_124 rfl ?_
          intro v G32 hq
          rcases hq with ⟨g233, r234, LO235, HI236, RL237, RH238, hv, hfk, hlk, hsk, hN80, hN87, hN88, hN91, hN92, hN89, hN90, hq39, hq40, hq41⟩
          cases hv
          have h84 := hfk.get h84 (by decide)
          have h93 := hfk.get h93 (by decide)
          have h81 := hfk.get h81 (by decide)
          have h82 := hfk.get h82 (by decide)
          have h110 := hfk.get h110 (by decide)
          have h111 := hfk.get h111 (by decide)
          have h94 := hfk.get h94 (by decide)
          have h95 := hfk.get h95 (by decide)
          have h96 := hfk.get h96 (by decide)
          have h97 := hfk.get h97 (by decide)
          have h98 := hfk.get h98 (by decide)
          have h99 := hfk.get h99 (by decide)
          have h100 := hfk.get h100 (by decide)
          have h101 := hfk.get h101 (by decide)
          have h105 := hfk.get h105 (by decide)
          have h106 := hfk.get h106 (by decide)
          have h107 := hfk.get h107 (by decide)
          have h108 := hfk.get h108 (by decide)
          have h109 := hfk.get h109 (by decide)
          have h102 := hfk.get h102 (by decide)
          have h103 := hfk.get h103 (by decide)
          have h104 := hfk.get h104 (by decide)
          have hfr := hfr.tr hfk (by decide)
          have hlen := hlk.trans hlen
          have hsl := hsk.trans hsl
          have h80 := hN80
          have h87 := hN87
          have h88 := hN88
          have h91 := hN91
          have h92 := hN92
          have h89 := hN89
          have h90 := hN90
          change ab_W _ _ _ G32 127 [some (vR 80), some (vz m_at), some (vz 0), none] [vz m_sets, vR 80, vR 80] _
          refine zz_iconst d_MO_readClass_127 ?_
          refine ab_callV (d' := d - 1) (as := [vz m_sets, vz 0]) (st := [vR 80]) (r := _) (z_MO_setNode (o := o) (m_thrown := m_thrown) (m_taped := m_taped) (m_length := m_length) (m_out := m_out) (m_wide := w218) (m_gathered := g233) (m_sets := (m_sets + 1)) (m_ranges := r234) (m_nodes := m_nodes) (m_at := (a213 + 1)) (m_flags := m_flags) (m_fault := f214) (m_place := p215) (m_numbered := m_numbered) (m_depth := m_depth) (m_value := v216) (m_isNot := nt217) (m_least0 := m_least0) (m_most0 := m_most0) (m_slot := m_slot) (m_work := m_work) (m_got := m_got) (m_rowMany := m_rowMany) (m_charAt := m_charAt) (m_charWide := m_charWide) (m_trail := m_trail) (m_isMatch := m_isMatch) (m_matchGroups := m_matchGroups) (m_allFrom := m_allFrom) (m_allBefore := m_allBefore) (m_founds := m_founds) (m_pieces := m_pieces) (m_writtenMany := m_writtenMany) (m_templateWide := m_templateWide) (m_tooMuch := m_tooMuch) (K := K) (O := O) (Fi := Fi) (Be := Be) (Z := Z) (SM := (zu SM m_sets (r234 - m_ranges))) (s := m_sets) (on := 0) h80 h90 h94 h95 h96 h97 h100 (by omega) (by omega) (rgs_zu jsm (by omega)) (by omega)) (fun oc G2 h => by rcases h with ⟨_, h, _⟩ <;> exact ⟨_, h⟩) (by omega) m_MO_setNode ml_MO_371 im_MO_setNode se_MO_setNode c_MO h80.2.2 (Nat.le_of_ble_eq_true rfl) d_MO_readClass_128 rfl ?_
          intro v G42 hq
          rcases hq with ⟨z243, hv, hfk, hlk, hsk, hN80, hN94, hN95, hN96, hN97, hN100, hq44⟩
          cases hv
          have h84 := hfk.get h84 (by decide)
          have h87 := hfk.get h87 (by decide)
          have h88 := hfk.get h88 (by decide)
          have h93 := hfk.get h93 (by decide)
          have h81 := hfk.get h81 (by decide)
          have h82 := hfk.get h82 (by decide)
          have h91 := hfk.get h91 (by decide)
          have h92 := hfk.get h92 (by decide)
          have h110 := hfk.get h110 (by decide)
          have h111 := hfk.get h111 (by decide)
          have h98 := hfk.get h98 (by decide)
          have h99 := hfk.get h99 (by decide)
          have h101 := hfk.get h101 (by decide)
          have h90 := hfk.get h90 (by decide)
          have h89 := hfk.get h89 (by decide)
          have h105 := hfk.get h105 (by decide)
          have h106 := hfk.get h106 (by decide)
          have h107 := hfk.get h107 (by decide)
          have h108 := hfk.get h108 (by decide)
          have h109 := hfk.get h109 (by decide)
          have h102 := hfk.get h102 (by decide)
          have h103 := hfk.get h103 (by decide)
          have h104 := hfk.get h104 (by decide)
          have hfr := hfr.tr hfk (by decide)
          have hlen := hlk.trans hlen
          have hsl := hsk.trans hsl
          have h80 := hN80
          have h94 := hN94
          have h95 := hN95
          have h96 := hN96
          have h97 := hN97
          have h100 := hN100
          change ab_W _ _ _ G42 131 [some (vR 80), some (vz m_at), some (vz 0), none] [vz m_nodes, vR 80] _
          have hsz_ : zu SM m_sets (r234 - m_ranges) m_sets = (r234 - m_ranges) := zu_self _ _ _
          have ptrI_0 : trI o G42 0 (m_nodes + 1) (m_sets + 1) (m_depth + 1) m_nodes 0 6 := ⟨(zu K m_nodes 1), (zu O m_nodes m_sets), (zu Fi m_nodes (-1)), (zu Be m_nodes (-1)), Le, Mo, (zu Z m_nodes z243), LZ, (zu SM m_sets (r234 - m_ranges)), (zu SA m_sets m_ranges), QF, QL, AF, AL, SD, OA, OF, ON, h94, h95, h96, h97, h98, h99, h100, h101, h90, h89, h105, h106, h107, h108, h109, h102, h103, h104, (rgs_zu jk (by omega)), (rgs_zu jo (by omega)), (rgs_zu jfi (by omega)), (rgs_zu jbe (by omega)), jle, jmo, (rgs_zu jz (by omega)), jlz, (rgs_zu jsm (by omega)), (rgs_zu jsa (by omega)), jqf, jql, jaf, jal, jsd, joa, jof, jon, (rtr_leaf (rtr_ns jt) (by omega) (Or.inr (Or.inl ⟨rfl, by omega, by omega, by omega, by rw [zu_self]; omega⟩))), (by omega), (fun h => absurd h (by decide)), (fun h => absurd h (by decide)), (fun h => absurd h (by decide)), (fun h => absurd h (by decide)), (fun _ => by rw [zu_self]; decide), (sas_s jss (by omega))⟩
          refine zz_iconst d_MO_readClass_131 ?_
          refine ab_callV (d' := d - 1) (as := [vz m_nodes, vz 1]) (st := []) (r := _) (z_MO_part (o := o) (m_thrown := m_thrown) (m_taped := m_taped) (m_length := m_length) (m_out := m_out) (m_wide := w218) (m_gathered := g233) (m_sets := (m_sets + 1)) (m_ranges := r234) (m_nodes := (m_nodes + 1)) (m_at := (a213 + 1)) (m_flags := m_flags) (m_fault := f214) (m_place := p215) (m_numbered := m_numbered) (m_depth := m_depth) (m_value := v216) (m_isNot := nt217) (m_least0 := m_least0) (m_most0 := m_most0) (m_slot := m_slot) (m_work := m_work) (m_got := m_got) (m_rowMany := m_rowMany) (m_charAt := m_charAt) (m_charWide := m_charWide) (m_trail := m_trail) (m_isMatch := m_isMatch) (m_matchGroups := m_matchGroups) (m_allFrom := m_allFrom) (m_allBefore := m_allBefore) (m_founds := m_founds) (m_pieces := m_pieces) (m_writtenMany := m_writtenMany) (m_templateWide := m_templateWide) (m_tooMuch := m_tooMuch) (x := m_nodes) (s := 1) (dh := 0) h80 ptrI_0 (by omega) (by omega) (by omega) (by omega)) (fun oc G2 h => by rcases h with ⟨h, _⟩ <;> exact ⟨_, h⟩) (by omega) m_MO_part ml_MO_375 im_MO_part se_MO_part c_MO h80.2.2 (Nat.le_of_ble_eq_true rfl) d_MO_readClass_132 rfl ?_
          intro v G45 hq
          rcases hq with ⟨hv, hfk, hlk, hsk, pNtrI_0⟩
          cases hv
          have h80 := hfk.get h80 (by decide)
          have h84 := hfk.get h84 (by decide)
          have h87 := hfk.get h87 (by decide)
          have h88 := hfk.get h88 (by decide)
          have h93 := hfk.get h93 (by decide)
          have h81 := hfk.get h81 (by decide)
          have h82 := hfk.get h82 (by decide)
          have h91 := hfk.get h91 (by decide)
          have h92 := hfk.get h92 (by decide)
          have h110 := hfk.get h110 (by decide)
          have h111 := hfk.get h111 (by decide)
          have ptrI_0 := pNtrI_0
          have hfr := hfr.tr hfk (by decide)
          have hlen := hlk.trans hlen
          have hsl := hsk.trans hsl
          change ab_W _ _ _ G45 135 [some (vR 80), some (vz m_at), some (vz 0), none] [] _
          refine ab_vret rfl d_MO_readClass_135 ?_
          rw [hQ]; exact (Or.inl ⟨_, _, _, _, _, _, _, _, _, _, _, _, _, _, _, _, _, _, _, _, _, _, rfl, hfr, hlen, hsl, h80, h87, h88, h93, h91, h92, h110, h111, ptrI_0, (by omega), (by first | exact hq27 | exact rgs_w hq27 (by omega)), (by first | exact hq39 | exact rgs_w hq39 (by omega)), (by first | exact hq40 | exact rgs_w hq40 (by omega)), (by first | exact jns | exact rgs_w jns (by omega)), (by first | exact jnm | exact rgs_w jnm (by omega))⟩)
        · refine ab_vret rfl d_MO_readClass_109 ?_
          rw [hQ]; exact (Or.inr ⟨_, _, _, _, _, _, _, _, _, _, _, _, _, _, _, _, _, _, _, _, _, _, rfl, hfr, hlen, hsl, h80, h87, h88, h93, h91, h92, h110, h111, ptrI_0, (by omega), (by first | exact hq27 | exact rgs_w hq27 (by omega)), (by first | exact jrl | exact rgs_w jrl (by omega)), (by first | exact jrh | exact rgs_w jrh (by omega)), (by first | exact jns | exact rgs_w jns (by omega)), (by first | exact jnm | exact rgs_w jnm (by omega))⟩)
    · refine zz_iconst d_MO_readClass_25 ?_
      refine ab_goto (tgt := 30) d_MO_readClass_26 (by decide) ?_
      refine ab_istore_n d_MO_readClass_30 (Nat.le_of_ble_eq_true rfl) (Nat.le_of_ble_eq_true rfl) rfl ?_
      change ab_W _ _ _ G1 31 [some (vR 80), some (vz m_at), some (vz 1), none] [] _
      refine ab_aload_n d_MO_readClass_31 rfl ?_
      refine ab_dup d_MO_readClass_32 rfl ?_
      refine ab_getf (fs := mof m_thrown m_taped m_length m_out m_wide m_gathered m_sets m_ranges m_nodes (m_at + 1) m_flags m_fault m_place m_numbered m_depth m_value m_isNot m_least0 m_most0 m_slot m_work m_got m_rowMany m_charAt m_charWide m_trail m_isMatch m_matchGroups m_allFrom m_allBefore m_founds m_pieces m_writtenMany m_templateWide m_tooMuch) f_MO_279 d_MO_readClass_33 h80.2.2 rfl ?_
      refine ab_iload_n d_MO_readClass_36 rfl ?_
      refine zz_if_eq (tgt := 44) d_MO_readClass_37 (by decide) (by decide) (fun c46 => absurd c46 (by decide)) (fun c46 => ?_)
      refine zz_iconst d_MO_readClass_40 ?_
      refine ab_goto (tgt := 45) d_MO_readClass_41 (by decide) ?_
      refine zz_iadd d_MO_readClass_45 ?_
      refine ab_putf (fs := mof m_thrown m_taped m_length m_out m_wide m_gathered m_sets m_ranges m_nodes (m_at + 1) m_flags m_fault m_place m_numbered m_depth m_value m_isNot m_least0 m_most0 m_slot m_work m_got m_rowMany m_charAt m_charWide m_trail m_isMatch m_matchGroups m_allFrom m_allBefore m_founds m_pieces m_writtenMany m_templateWide m_tooMuch) f_MO_279 (Or.inl rfl) d_MO_readClass_46 h80.2.2 (Nat.le_of_ble_eq_true rfl) (fun _ => ⟨rfl, rfl⟩) (h80.2.1 (by decide)) ?_
      obtain ⟨G47, eG47⟩ : ∃ z : ab_G, z = List.set G1 80 (ab_ob 12 (mof m_thrown m_taped m_length m_out m_wide m_gathered m_sets m_ranges m_nodes ((m_at + 1) + 1) m_flags m_fault m_place m_numbered m_depth m_value m_isNot m_least0 m_most0 m_slot m_work m_got m_rowMany m_charAt m_charWide m_trail m_isMatch m_matchGroups m_allFrom m_allBefore m_founds m_pieces m_writtenMany m_templateWide m_tooMuch)) := ⟨_, rfl⟩
      have h84 := h84.keep h80 eG47 (by decide)
      have h87 := h87.keep h80 eG47 (by decide)
      have h88 := h88.keep h80 eG47 (by decide)
      have h93 := h93.keep h80 eG47 (by decide)
      have h81 := h81.keep h80 eG47 (by decide)
      have h82 := h82.keep h80 eG47 (by decide)
      have h91 := h91.keep h80 eG47 (by decide)
      have h92 := h92.keep h80 eG47 (by decide)
      have h110 := h110.keep h80 eG47 (by decide)
      have h111 := h111.keep h80 eG47 (by decide)
      have hst := (fx.rf (o := o) (S := [280]) (G := G1)).wr h80 eG47 (List.mem_singleton.mpr rfl)
      have ptrI_0 := trI.fr hst ptrI_0 (by decide) (by decide) (by decide) (by decide) (by decide) (by decide) (by decide) (by decide) (by decide) (by decide) (by decide) (by decide) (by decide) (by decide) (by decide) (by decide) (by decide) (by decide)
      have hlen := (z_len eG47).trans hlen
      have hsl := (z_sl h80 eG47 rfl).trans hsl
      have hfr := hfr.wr h80 eG47 (by decide)
      have h80 := h80.kept eG47
      change ab_W _ _ _ (List.set G1 80 (ab_ob 12 (mof m_thrown m_taped m_length m_out m_wide m_gathered m_sets m_ranges m_nodes ((m_at + 1) + 1) m_flags m_fault m_place m_numbered m_depth m_value m_isNot m_least0 m_most0 m_slot m_work m_got m_rowMany m_charAt m_charWide m_trail m_isMatch m_matchGroups m_allFrom m_allBefore m_founds m_pieces m_writtenMany m_templateWide m_tooMuch))) 49 [some (vR 80), some (vz m_at), some (vz 1), none] [] _
      rw [← eG47]
      refine ab_aload_n d_MO_readClass_49 rfl ?_
      refine ab_callV (d' := d - 1) (as := []) (st := []) (r := _) (z_MO_begin (o := o) (m_thrown := m_thrown) (m_taped := m_taped) (m_length := m_length) (m_out := m_out) (m_wide := m_wide) (m_gathered := m_gathered) (m_sets := m_sets) (m_ranges := m_ranges) (m_nodes := m_nodes) (m_at := ((m_at + 1) + 1)) (m_flags := m_flags) (m_fault := m_fault) (m_place := m_place) (m_numbered := m_numbered) (m_depth := m_depth) (m_value := m_value) (m_isNot := m_isNot) (m_least0 := m_least0) (m_most0 := m_most0) (m_slot := m_slot) (m_work := m_work) (m_got := m_got) (m_rowMany := m_rowMany) (m_charAt := m_charAt) (m_charWide := m_charWide) (m_trail := m_trail) (m_isMatch := m_isMatch) (m_matchGroups := m_matchGroups) (m_allFrom := m_allFrom) (m_allBefore := m_allBefore) (m_founds := m_founds) (m_pieces := m_pieces) (m_writtenMany := m_writtenMany) (m_templateWide := m_templateWide) (m_tooMuch := m_tooMuch) (LO := LO) (HI := HI) (MK := MK) h80 h93 h87 h88 (by omega) jmk (by omega)) (fun oc G2 h => by rcases h with ⟨_, h, _⟩ <;> exact ⟨_, h⟩) (by omega) m_MO_begin ml_MO_362 im_MO_begin se_MO_begin c_MO h80.2.2 (Nat.le_of_ble_eq_true rfl) d_MO_readClass_50 rfl ?_
      intro v G48 hq
      rcases hq with ⟨MK249, hv, hfk, hlk, hsk, hN80, hN93, hq50, hq51⟩
      cases hv
      have h84 := hfk.get h84 (by decide)
      have h87 := hfk.get h87 (by decide)
      have h88 := hfk.get h88 (by decide)
      have h81 := hfk.get h81 (by decide)
      have h82 := hfk.get h82 (by decide)
      have h91 := hfk.get h91 (by decide)
      have h92 := hfk.get h92 (by decide)
      have h110 := hfk.get h110 (by decide)
      have h111 := hfk.get h111 (by decide)
      have ptrI_0 := trI.fr hfk ptrI_0 (by decide) (by decide) (by decide) (by decide) (by decide) (by decide) (by decide) (by decide) (by decide) (by decide) (by decide) (by decide) (by decide) (by decide) (by decide) (by decide) (by decide) (by decide)
      have hfr := hfr.tr hfk (by decide)
      have hlen := hlk.trans hlen
      have hsl := hsk.trans hsl
      have h80 := hN80
      have h93 := hN93
      change ab_W _ _ _ G48 53 [some (vR 80), some (vz m_at), some (vz 1), none] [] _
      refine zz_iconst d_MO_readClass_53 ?_
      refine ab_istore_n d_MO_readClass_54 (Nat.le_of_ble_eq_true rfl) (Nat.le_of_ble_eq_true rfl) rfl ?_
      change ab_W _ _ _ G48 55 [some (vR 80), some (vz m_at), some (vz 1), some (vz 0)] [] _
      refine y_MO_readClass_55 (m_thrown := m_thrown) (m_taped := m_taped) (m_length := m_length) (m_out := m_out) (m_sets := m_sets) (m_ranges := m_ranges) (m_nodes := m_nodes) (m_flags := m_flags) (m_numbered := m_numbered) (m_depth := m_depth) (m_least0 := m_least0) (m_most0 := m_most0) (m_slot := m_slot) (m_work := m_work) (m_got := m_got) (m_rowMany := m_rowMany) (m_charAt := m_charAt) (m_charWide := m_charWide) (m_trail := m_trail) (m_isMatch := m_isMatch) (m_matchGroups := m_matchGroups) (m_allFrom := m_allFrom) (m_allBefore := m_allBefore) (m_founds := m_founds) (m_pieces := m_pieces) (m_writtenMany := m_writtenMany) (m_templateWide := m_templateWide) (m_tooMuch := m_tooMuch) (A_tape := A_tape) (wh := m_at) (nt := 1) (a0 := ((m_at + 1) + 1)) (G0 := G48) (m_at := ((m_at + 1) + 1)) (m_fault := m_fault) (m_place := m_place) (m_value := m_value) (m_isNot := m_isNot) (m_wide := m_wide) (m_gathered := 0) (LO := LO) (HI := HI) (MK := MK249) (P := (fun _ => False)) (bg := 0) (mq := 0) (ms := (m_taped + 2 - ((m_at + 1) + 1))) (by omega) (by omega) jtp (by omega) (by omega) (Int.toNat (m_taped + 2 - ((m_at + 1) + 1)) + 1) h80 h84 h87 h88 h93 h81 h82 (by omega) (fun _ => by omega) hq50 (fun _ => hq51) (fun _ => lfc_0 (fun _ h => h)) fx.rf rfl rfl (by omega) (fun G52 a253 f254 p255 v256 nt257 w258 g259 m260 LO261 HI262 MK263 P264 hN80 hN87 hN88 hN93 hq65 hq66 hq67 hq68 hq69 hfk hlk hsk => ?_)
      · have h84 := hfk.get h84 (by decide)
        have h81 := hfk.get h81 (by decide)
        have h82 := hfk.get h82 (by decide)
        have h91 := hfk.get h91 (by decide)
        have h92 := hfk.get h92 (by decide)
        have h110 := hfk.get h110 (by decide)
        have h111 := hfk.get h111 (by decide)
        have ptrI_0 := trI.fr hfk ptrI_0 (by decide) (by decide) (by decide) (by decide) (by decide) (by decide) (by decide) (by decide) (by decide) (by decide) (by decide) (by decide) (by decide) (by decide) (by decide) (by decide) (by decide) (by decide)
        have hfr := hfr.tr hfk (by decide)
        have hlen := hlk.trans hlen
        have hsl := hsk.trans hsl
        have h80 := hN80
        have h87 := hN87
        have h88 := hN88
        have h93 := hN93
        change ab_W _ _ _ G52 102 [some (vR 80), some (vz m_at), some (vz 1), none] [] _
        refine ab_aload_n d_MO_readClass_102 rfl ?_
        refine ab_getf (fs := mof m_thrown m_taped m_length m_out w258 g259 m_sets m_ranges m_nodes a253 m_flags f254 p255 m_numbered m_depth v256 nt257 m_least0 m_most0 m_slot m_work m_got m_rowMany m_charAt m_charWide m_trail m_isMatch m_matchGroups m_allFrom m_allBefore m_founds m_pieces m_writtenMany m_templateWide m_tooMuch) f_MO_273 d_MO_readClass_103 h80.2.2 rfl ?_
        refine zz_if_le (tgt := 110) d_MO_readClass_106 (by decide) (by omega) (fun c70 => ?_) (fun c70 => ?_)
        · have hcj_ := hq66 (by omega)
          have hcc_ := hq68 (by omega)
          have hll_ := hq69 (by omega)
          obtain ⟨K, O, Fi, Be, Le, Mo, Z, LZ, SM, SA, QF, QL, AF, AL, SD, OA, OF, ON, h94, h95, h96, h97, h98, h99, h100, h101, h90, h89, h105, h106, h107, h108, h109, h102, h103, h104, jk, jo, jfi, jbe, jle, jmo, jz, jlz, jsm, jsa, jqf, jql, jaf, jal, jsd, joa, jof, jon, jt, cnd, cre, crs, crz, ck5, ck6, jss⟩ := ptrI_0
          refine ab_aload_n d_MO_readClass_110 rfl ?_
          refine ab_dup d_MO_readClass_111 rfl ?_
          refine ab_getf (fs := mof m_thrown m_taped m_length m_out w258 g259 m_sets m_ranges m_nodes a253 m_flags f254 p255 m_numbered m_depth v256 nt257 m_least0 m_most0 m_slot m_work m_got m_rowMany m_charAt m_charWide m_trail m_isMatch m_matchGroups m_allFrom m_allBefore m_founds m_pieces m_writtenMany m_templateWide m_tooMuch) f_MO_279 d_MO_readClass_112 h80.2.2 rfl ?_
          refine zz_iconst d_MO_readClass_115 ?_
          refine zz_iadd d_MO_readClass_116 ?_
          refine ab_putf (fs := mof m_thrown m_taped m_length m_out w258 g259 m_sets m_ranges m_nodes a253 m_flags f254 p255 m_numbered m_depth v256 nt257 m_least0 m_most0 m_slot m_work m_got m_rowMany m_charAt m_charWide m_trail m_isMatch m_matchGroups m_allFrom m_allBefore m_founds m_pieces m_writtenMany m_templateWide m_tooMuch) f_MO_279 (Or.inl rfl) d_MO_readClass_117 h80.2.2 (Nat.le_of_ble_eq_true rfl) (fun _ => ⟨rfl, rfl⟩) (h80.2.1 (by decide)) ?_
          obtain ⟨G71, eG71⟩ : ∃ z : ab_G, z = List.set G52 80 (ab_ob 12 (mof m_thrown m_taped m_length m_out w258 g259 m_sets m_ranges m_nodes (a253 + 1) m_flags f254 p255 m_numbered m_depth v256 nt257 m_least0 m_most0 m_slot m_work m_got m_rowMany m_charAt m_charWide m_trail m_isMatch m_matchGroups m_allFrom m_allBefore m_founds m_pieces m_writtenMany m_templateWide m_tooMuch)) := ⟨_, rfl⟩
          have h84 := h84.keep h80 eG71 (by decide)
          have h87 := h87.keep h80 eG71 (by decide)
          have h88 := h88.keep h80 eG71 (by decide)
          have h93 := h93.keep h80 eG71 (by decide)
          have h81 := h81.keep h80 eG71 (by decide)
          have h82 := h82.keep h80 eG71 (by decide)
          have h91 := h91.keep h80 eG71 (by decide)
          have h92 := h92.keep h80 eG71 (by decide)
          have h110 := h110.keep h80 eG71 (by decide)
          have h111 := h111.keep h80 eG71 (by decide)
          have h94 := h94.keep h80 eG71 (by decide)
          have h95 := h95.keep h80 eG71 (by decide)
          have h96 := h96.keep h80 eG71 (by decide)
          have h97 := h97.keep h80 eG71 (by decide)
          have h98 := h98.keep h80 eG71 (by decide)
          have h99 := h99.keep h80 eG71 (by decide)
          have h100 := h100.keep h80 eG71 (by decide)
          have h101 := h101.keep h80 eG71 (by decide)
          have h90 := h90.keep h80 eG71 (by decide)
          have h89 := h89.keep h80 eG71 (by decide)
          have h105 := h105.keep h80 eG71 (by decide)
          have h106 := h106.keep h80 eG71 (by decide)
          have h107 := h107.keep h80 eG71 (by decide)
          have h108 := h108.keep h80 eG71 (by decide)
          have h109 := h109.keep h80 eG71 (by decide)
          have h102 := h102.keep h80 eG71 (by decide)
          have h103 := h103.keep h80 eG71 (by decide)
          have h104 := h104.keep h80 eG71 (by decide)
          have hlen := (z_len eG71).trans hlen
          have hsl := (z_sl h80 eG71 rfl).trans hsl
          have hfr := hfr.wr h80 eG71 (by decide)
          have h80 := h80.kept eG71
          change ab_W _ _ _ (List.set G52 80 (ab_ob 12 (mof m_thrown m_taped m_length m_out w258 g259 m_sets m_ranges m_nodes (a253 + 1) m_flags f254 p255 m_numbered m_depth v256 nt257 m_least0 m_most0 m_slot m_work m_got m_rowMany m_charAt m_charWide m_trail m_isMatch m_matchGroups m_allFrom m_allBefore m_founds m_pieces m_writtenMany m_templateWide m_tooMuch))) 120 [some (vR 80), some (vz m_at), some (vz 1), none] [] _
          rw [← eG71]
          refine ab_aload_n d_MO_readClass_120 rfl ?_
          refine ab_aload_n d_MO_readClass_121 rfl ?_
          refine ab_aload_n d_MO_readClass_122 rfl ?_
          refine ab_iload_n d_MO_readClass_123 rfl ?_
          refine ab_callV (d' := d - 1) (as := [vz 1]) (st := [vR 80, vR 80]) (r := _) (z_MO_close (o := o) (m_thrown := m_thrown) (m_taped := m_taped) (m_length := m_length) (m_out := m_out) (m_wide := w258) (m_gathered := g259) (m_sets := m_sets) (m_ranges := m_ranges) (m_nodes := m_nodes) (m_at := (a253 + 1)) (m_flags := m_flags) (m_fault := f254) (m_place := p255) (m_numbered := m_numbered) (m_depth := m_depth) (m_value := v256) (m_isNot := nt257) (m_least0 := m_least0) (m_most0 := m_most0) (m_slot := m_slot) (m_work := m_work) (m_got := m_got) (m_rowMany := m_rowMany) (m_charAt := m_charAt) (m_charWide := m_charWide) (m_trail := m_trail) (m_isMatch := m_isMatch) (m_matchGroups := m_matchGroups) (m_allFrom := m_allFrom) (m_allBefore := m_allBefore) (m_founds := m_founds) (m_pieces := m_pieces) (m_writtenMany := m_writtenMany) (m_templateWide := m_templateWide) (m_tooMuch := m_tooMuch) (LO := LO261) (HI := HI262) (MK := MK263) (RL := RL) (RH := RH) (SA := SA) (SM := SM) (P := P264) (nt := 1) (mm := m260) h80 h87 h88 h93 h91 h92 h89 h90 (by omega) hq67 (by omega) hcc_ hll_ jrl jrh (by omega)) (fun oc G2 h => by rcases h with ⟨_, _, _, _, _, _, h, _⟩ <;> exact ⟨_, h⟩) (by omega) m_MO_close ml_MO_368 im_MO_close se_MO_close c_MO h80.2.2 (Nat.le_of_ble_eq_true rfl) d_MO_readClass_124 rfl ?_
          intro v G72 hq
          rcases hq with ⟨g273, r274, LO275, HI276, RL277, RH278, hv, hfk, hlk, hsk, hN80, hN87, hN88, hN91, hN92, hN89, hN90, hq79, hq80, hq81⟩
          cases hv
          have h84 := hfk.get h84 (by decide)
          have h93 := hfk.get h93 (by decide)
          have h81 := hfk.get h81 (by decide)
          have h82 := hfk.get h82 (by decide)
          have h110 := hfk.get h110 (by decide)
          have h111 := hfk.get h111 (by decide)
          have h94 := hfk.get h94 (by decide)
          have h95 := hfk.get h95 (by decide)
          have h96 := hfk.get h96 (by decide)
          have h97 := hfk.get h97 (by decide)
          have h98 := hfk.get h98 (by decide)
          have h99 := hfk.get h99 (by decide)
          have h100 := hfk.get h100 (by decide)
          have h101 := hfk.get h101 (by decide)
          have h105 := hfk.get h105 (by decide)
          have h106 := hfk.get h106 (by decide)
          have h107 := hfk.get h107 (by decide)
          have h108 := hfk.get h108 (by decide)
          have h109 := hfk.get h109 (by decide)
          have h102 := hfk.get h102 (by decide)
          have h103 := hfk.get h103 (by decide)
          have h104 := hfk.get h104 (by decide)
          have hfr := hfr.tr hfk (by decide)
          have hlen := hlk.trans hlen
          have hsl := hsk.trans hsl
          have h80 := hN80
          have h87 := hN87
          have h88 := hN88
          have h91 := hN91
          have h92 := hN92
          have h89 := hN89
          have h90 := hN90
          change ab_W _ _ _ G72 127 [some (vR 80), some (vz m_at), some (vz 1), none] [vz m_sets, vR 80, vR 80] _
          refine zz_iconst d_MO_readClass_127 ?_
          refine ab_callV (d' := d - 1) (as := [vz m_sets, vz 0]) (st := [vR 80]) (r := _) (z_MO_setNode (o := o) (m_thrown := m_thrown) (m_taped := m_taped) (m_length := m_length) (m_out := m_out) (m_wide := w258) (m_gathered := g273) (m_sets := (m_sets + 1)) (m_ranges := r274) (m_nodes := m_nodes) (m_at := (a253 + 1)) (m_flags := m_flags) (m_fault := f254) (m_place := p255) (m_numbered := m_numbered) (m_depth := m_depth) (m_value := v256) (m_isNot := nt257) (m_least0 := m_least0) (m_most0 := m_most0) (m_slot := m_slot) (m_work := m_work) (m_got := m_got) (m_rowMany := m_rowMany) (m_charAt := m_charAt) (m_charWide := m_charWide) (m_trail := m_trail) (m_isMatch := m_isMatch) (m_matchGroups := m_matchGroups) (m_allFrom := m_allFrom) (m_allBefore := m_allBefore) (m_founds := m_founds) (m_pieces := m_pieces) (m_writtenMany := m_writtenMany) (m_templateWide := m_templateWide) (m_tooMuch := m_tooMuch) (K := K) (O := O) (Fi := Fi) (Be := Be) (Z := Z) (SM := (zu SM m_sets (r274 - m_ranges))) (s := m_sets) (on := 0) h80 h90 h94 h95 h96 h97 h100 (by omega) (by omega) (rgs_zu jsm (by omega)) (by omega)) (fun oc G2 h => by rcases h with ⟨_, h, _⟩ <;> exact ⟨_, h⟩) (by omega) m_MO_setNode ml_MO_371 im_MO_setNode se_MO_setNode c_MO h80.2.2 (Nat.le_of_ble_eq_true rfl) d_MO_readClass_128 rfl ?_
          intro v G82 hq
          rcases hq with ⟨z283, hv, hfk, hlk, hsk, hN80, hN94, hN95, hN96, hN97, hN100, hq84⟩
          cases hv
          have h84 := hfk.get h84 (by decide)
          have h87 := hfk.get h87 (by decide)
          have h88 := hfk.get h88 (by decide)
          have h93 := hfk.get h93 (by decide)
          have h81 := hfk.get h81 (by decide)
          have h82 := hfk.get h82 (by decide)
          have h91 := hfk.get h91 (by decide)
          have h92 := hfk.get h92 (by decide)
          have h110 := hfk.get h110 (by decide)
          have h111 := hfk.get h111 (by decide)
          have h98 := hfk.get h98 (by decide)
          have h99 := hfk.get h99 (by decide)
          have h101 := hfk.get h101 (by decide)
          have h90 := hfk.get h90 (by decide)
          have h89 := hfk.get h89 (by decide)
          have h105 := hfk.get h105 (by decide)
          have h106 := hfk.get h106 (by decide)
          have h107 := hfk.get h107 (by decide)
          have h108 := hfk.get h108 (by decide)
          have h109 := hfk.get h109 (by decide)
          have h102 := hfk.get h102 (by decide)
          have h103 := hfk.get h103 (by decide)
          have h104 := hfk.get h104 (by decide)
          have hfr := hfr.tr hfk (by decide)
          have hlen := hlk.trans hlen
          have hsl := hsk.trans hsl
          have h80 := hN80
          have h94 := hN94
          have h95 := hN95
          have h96 := hN96
          have h97 := hN97
          have h100 := hN100
          change ab_W _ _ _ G82 131 [some (vR 80), some (vz m_at), some (vz 1), none] [vz m_nodes, vR 80] _
          have hsz_ : zu SM m_sets (r274 - m_ranges) m_sets = (r274 - m_ranges) := zu_self _ _ _
          have ptrI_0 : trI o G82 0 (m_nodes + 1) (m_sets + 1) (m_depth + 1) m_nodes 0 6 := ⟨(zu K m_nodes 1), (zu O m_nodes m_sets), (zu Fi m_nodes (-1)), (zu Be m_nodes (-1)), Le, Mo, (zu Z m_nodes z283), LZ, (zu SM m_sets (r274 - m_ranges)), (zu SA m_sets m_ranges), QF, QL, AF, AL, SD, OA, OF, ON, h94, h95, h96, h97, h98, h99, h100, h101, h90, h89, h105, h106, h107, h108, h109, h102, h103, h104, (rgs_zu jk (by omega)), (rgs_zu jo (by omega)), (rgs_zu jfi (by omega)), (rgs_zu jbe (by omega)), jle, jmo, (rgs_zu jz (by omega)), jlz, (rgs_zu jsm (by omega)), (rgs_zu jsa (by omega)), jqf, jql, jaf, jal, jsd, joa, jof, jon, (rtr_leaf (rtr_ns jt) (by omega) (Or.inr (Or.inl ⟨rfl, by omega, by omega, by omega, by rw [zu_self]; omega⟩))), (by omega), (fun h => absurd h (by decide)), (fun h => absurd h (by decide)), (fun h => absurd h (by decide)), (fun h => absurd h (by decide)), (fun _ => by rw [zu_self]; decide), (sas_s jss (by omega))⟩
          refine zz_iconst d_MO_readClass_131 ?_
          refine ab_callV (d' := d - 1) (as := [vz m_nodes, vz 1]) (st := []) (r := _) (z_MO_part (o := o) (m_thrown := m_thrown) (m_taped := m_taped) (m_length := m_length) (m_out := m_out) (m_wide := w258) (m_gathered := g273) (m_sets := (m_sets + 1)) (m_ranges := r274) (m_nodes := (m_nodes + 1)) (m_at := (a253 + 1)) (m_flags := m_flags) (m_fault := f254) (m_place := p255) (m_numbered := m_numbered) (m_depth := m_depth) (m_value := v256) (m_isNot := nt257) (m_least0 := m_least0) (m_most0 := m_most0) (m_slot := m_slot) (m_work := m_work) (m_got := m_got) (m_rowMany := m_rowMany) (m_charAt := m_charAt) (m_charWide := m_charWide) (m_trail := m_trail) (m_isMatch := m_isMatch) (m_matchGroups := m_matchGroups) (m_allFrom := m_allFrom) (m_allBefore := m_allBefore) (m_founds := m_founds) (m_pieces := m_pieces) (m_writtenMany := m_writtenMany) (m_templateWide := m_templateWide) (m_tooMuch := m_tooMuch) (x := m_nodes) (s := 1) (dh := 0) h80 ptrI_0 (by omega) (by omega) (by omega) (by omega)) (fun oc G2 h => by rcases h with ⟨h, _⟩ <;> exact ⟨_, h⟩) (by omega) m_MO_part ml_MO_375 im_MO_part se_MO_part c_MO h80.2.2 (Nat.le_of_ble_eq_true rfl) d_MO_readClass_132 rfl ?_
          intro v G85 hq
          rcases hq with ⟨hv, hfk, hlk, hsk, pNtrI_0⟩
          cases hv
          have h80 := hfk.get h80 (by decide)
          have h84 := hfk.get h84 (by decide)
          have h87 := hfk.get h87 (by decide)
          have h88 := hfk.get h88 (by decide)
          have h93 := hfk.get h93 (by decide)
          have h81 := hfk.get h81 (by decide)
          have h82 := hfk.get h82 (by decide)
          have h91 := hfk.get h91 (by decide)
          have h92 := hfk.get h92 (by decide)
          have h110 := hfk.get h110 (by decide)
          have h111 := hfk.get h111 (by decide)
          have ptrI_0 := pNtrI_0
          have hfr := hfr.tr hfk (by decide)
          have hlen := hlk.trans hlen
          have hsl := hsk.trans hsl
          change ab_W _ _ _ G85 135 [some (vR 80), some (vz m_at), some (vz 1), none] [] _
          refine ab_vret rfl d_MO_readClass_135 ?_
          rw [hQ]; exact (Or.inl ⟨_, _, _, _, _, _, _, _, _, _, _, _, _, _, _, _, _, _, _, _, _, _, rfl, hfr, hlen, hsl, h80, h87, h88, h93, h91, h92, h110, h111, ptrI_0, (by omega), (by first | exact hq67 | exact rgs_w hq67 (by omega)), (by first | exact hq79 | exact rgs_w hq79 (by omega)), (by first | exact hq80 | exact rgs_w hq80 (by omega)), (by first | exact jns | exact rgs_w jns (by omega)), (by first | exact jnm | exact rgs_w jnm (by omega))⟩)
        · refine ab_vret rfl d_MO_readClass_109 ?_
          rw [hQ]; exact (Or.inr ⟨_, _, _, _, _, _, _, _, _, _, _, _, _, _, _, _, _, _, _, _, _, _, rfl, hfr, hlen, hsl, h80, h87, h88, h93, h91, h92, h110, h111, ptrI_0, (by omega), (by first | exact hq67 | exact rgs_w hq67 (by omega)), (by first | exact jrl | exact rgs_w jrl (by omega)), (by first | exact jrh | exact rgs_w jrh (by omega)), (by first | exact jns | exact rgs_w jns (by omega)), (by first | exact jnm | exact rgs_w jnm (by omega))⟩)
  · cases hv
    rw [hGe]
    change ab_W _ _ _ G1 20 [some (vR 80), some (vz m_at), none, none] [vz (-1)] _
    refine zz_bipush d_MO_readClass_20 (by decide) ?_
    refine zz_icmp_ne (tgt := 29) d_MO_readClass_22 (by decide) (by decide) (by decide) (fun c86 => ?_) (fun c86 => absurd c86 (by decide))
    refine zz_iconst d_MO_readClass_29 ?_
    refine ab_istore_n d_MO_readClass_30 (Nat.le_of_ble_eq_true rfl) (Nat.le_of_ble_eq_true rfl) rfl ?_
    change ab_W _ _ _ G1 31 [some (vR 80), some (vz m_at), some (vz 0), none] [] _
    refine ab_aload_n d_MO_readClass_31 rfl ?_
    refine ab_dup d_MO_readClass_32 rfl ?_
    refine ab_getf (fs := mof m_thrown m_taped m_length m_out m_wide m_gathered m_sets m_ranges m_nodes (m_at + 1) m_flags m_fault m_place m_numbered m_depth m_value m_isNot m_least0 m_most0 m_slot m_work m_got m_rowMany m_charAt m_charWide m_trail m_isMatch m_matchGroups m_allFrom m_allBefore m_founds m_pieces m_writtenMany m_templateWide m_tooMuch) f_MO_279 d_MO_readClass_33 h80.2.2 rfl ?_
    refine ab_iload_n d_MO_readClass_36 rfl ?_
    refine zz_if_eq (tgt := 44) d_MO_readClass_37 (by decide) (by decide) (fun c87 => ?_) (fun c87 => absurd c87 (by decide))
    refine zz_iconst d_MO_readClass_44 ?_
    refine zz_iadd d_MO_readClass_45 ?_
    refine ab_putf (fs := mof m_thrown m_taped m_length m_out m_wide m_gathered m_sets m_ranges m_nodes (m_at + 1) m_flags m_fault m_place m_numbered m_depth m_value m_isNot m_least0 m_most0 m_slot m_work m_got m_rowMany m_charAt m_charWide m_trail m_isMatch m_matchGroups m_allFrom m_allBefore m_founds m_pieces m_writtenMany m_templateWide m_tooMuch) f_MO_279 (Or.inl rfl) d_MO_readClass_46 h80.2.2 (Nat.le_of_ble_eq_true rfl) (fun _ => ⟨rfl, rfl⟩) (h80.2.1 (by decide)) ?_
    obtain ⟨G88, eG88⟩ : ∃ z : ab_G, z = List.set G1 80 (ab_ob 12 (mof m_thrown m_taped m_length m_out m_wide m_gathered m_sets m_ranges m_nodes ((m_at + 1) + 0) m_flags m_fault m_place m_numbered m_depth m_value m_isNot m_least0 m_most0 m_slot m_work m_got m_rowMany m_charAt m_charWide m_trail m_isMatch m_matchGroups m_allFrom m_allBefore m_founds m_pieces m_writtenMany m_templateWide m_tooMuch)) := ⟨_, rfl⟩
    have h84 := h84.keep h80 eG88 (by decide)
    have h87 := h87.keep h80 eG88 (by decide)
    have h88 := h88.keep h80 eG88 (by decide)
    have h93 := h93.keep h80 eG88 (by decide)
    have h81 := h81.keep h80 eG88 (by decide)
    have h82 := h82.keep h80 eG88 (by decide)
    have h91 := h91.keep h80 eG88 (by decide)
    have h92 := h92.keep h80 eG88 (by decide)
    have h110 := h110.keep h80 eG88 (by decide)
    have h111 := h111.keep h80 eG88 (by decide)
    have hst := (fx.rf (o := o) (S := [280]) (G := G1)).wr h80 eG88 (List.mem_singleton.mpr rfl)
    have ptrI_0 := trI.fr hst ptrI_0 (by decide) (by decide) (by decide) (by decide) (by decide) (by decide) (by decide) (by decide) (by decide) (by decide) (by decide) (by decide) (by decide) (by decide) (by decide) (by decide) (by decide) (by decide)
    have hlen := (z_len eG88).trans hlen
    have hsl := (z_sl h80 eG88 rfl).trans hsl
    have hfr := hfr.wr h80 eG88 (by decide)
    have h80 := h80.kept eG88
    change ab_W _ _ _ (List.set G1 80 (ab_ob 12 (mof m_thrown m_taped m_length m_out m_wide m_gathered m_sets m_ranges m_nodes ((m_at + 1) + 0) m_flags m_fault m_place m_numbered m_depth m_value m_isNot m_least0 m_most0 m_slot m_work m_got m_rowMany m_charAt m_charWide m_trail m_isMatch m_matchGroups m_allFrom m_allBefore m_founds m_pieces m_writtenMany m_templateWide m_tooMuch))) 49 [some (vR 80), some (vz m_at), some (vz 0), none] [] _
    rw [← eG88]
    refine ab_aload_n d_MO_readClass_49 rfl ?_
    refine ab_callV (d' := d - 1) (as := []) (st := []) (r := _) (z_MO_begin (o := o) (m_thrown := m_thrown) (m_taped := m_taped) (m_length := m_length) (m_out := m_out) (m_wide := m_wide) (m_gathered := m_gathered) (m_sets := m_sets) (m_ranges := m_ranges) (m_nodes := m_nodes) (m_at := ((m_at + 1) + 0)) (m_flags := m_flags) (m_fault := m_fault) (m_place := m_place) (m_numbered := m_numbered) (m_depth := m_depth) (m_value := m_value) (m_isNot := m_isNot) (m_least0 := m_least0) (m_most0 := m_most0) (m_slot := m_slot) (m_work := m_work) (m_got := m_got) (m_rowMany := m_rowMany) (m_charAt := m_charAt) (m_charWide := m_charWide) (m_trail := m_trail) (m_isMatch := m_isMatch) (m_matchGroups := m_matchGroups) (m_allFrom := m_allFrom) (m_allBefore := m_allBefore) (m_founds := m_founds) (m_pieces := m_pieces) (m_writtenMany := m_writtenMany) (m_templateWide := m_templateWide) (m_tooMuch := m_tooMuch) (LO := LO) (HI := HI) (MK := MK) h80 h93 h87 h88 (by omega) jmk (by omega)) (fun oc G2 h => by rcases h with ⟨_, h, _⟩ <;> exact ⟨_, h⟩) (by omega) m_MO_begin ml_MO_362 im_MO_begin se_MO_begin c_MO h80.2.2 (Nat.le_of_ble_eq_true rfl) d_MO_readClass_50 rfl ?_
    intro v G89 hq
    rcases hq with ⟨MK290, hv, hfk, hlk, hsk, hN80, hN93, hq91, hq92⟩
    cases hv
    have h84 := hfk.get h84 (by decide)
    have h87 := hfk.get h87 (by decide)
    have h88 := hfk.get h88 (by decide)
    have h81 := hfk.get h81 (by decide)
    have h82 := hfk.get h82 (by decide)
    have h91 := hfk.get h91 (by decide)
    have h92 := hfk.get h92 (by decide)
    have h110 := hfk.get h110 (by decide)
    have h111 := hfk.get h111 (by decide)
    have ptrI_0 := trI.fr hfk ptrI_0 (by decide) (by decide) (by decide) (by decide) (by decide) (by decide) (by decide) (by decide) (by decide) (by decide) (by decide) (by decide) (by decide) (by decide) (by decide) (by decide) (by decide) (by decide)
    have hfr := hfr.tr hfk (by decide)
    have hlen := hlk.trans hlen
    have hsl := hsk.trans hsl
    have h80 := hN80
    have h93 := hN93
    change ab_W _ _ _ G89 53 [some (vR 80), some (vz m_at), some (vz 0), none] [] _
    refine zz_iconst d_MO_readClass_53 ?_
    refine ab_istore_n d_MO_readClass_54 (Nat.le_of_ble_eq_true rfl) (Nat.le_of_ble_eq_true rfl) rfl ?_
    change ab_W _ _ _ G89 55 [some (vR 80), some (vz m_at), some (vz 0), some (vz 0)] [] _
    refine y_MO_readClass_55 (m_thrown := m_thrown) (m_taped := m_taped) (m_length := m_length) (m_out := m_out) (m_sets := m_sets) (m_ranges := m_ranges) (m_nodes := m_nodes) (m_flags := m_flags) (m_numbered := m_numbered) (m_depth := m_depth) (m_least0 := m_least0) (m_most0 := m_most0) (m_slot := m_slot) (m_work := m_work) (m_got := m_got) (m_rowMany := m_rowMany) (m_charAt := m_charAt) (m_charWide := m_charWide) (m_trail := m_trail) (m_isMatch := m_isMatch) (m_matchGroups := m_matchGroups) (m_allFrom := m_allFrom) (m_allBefore := m_allBefore) (m_founds := m_founds) (m_pieces := m_pieces) (m_writtenMany := m_writtenMany) (m_templateWide := m_templateWide) (m_tooMuch := m_tooMuch) (A_tape := A_tape) (wh := m_at) (nt := 0) (a0 := ((m_at + 1) + 0)) (G0 := G89) (m_at := ((m_at + 1) + 0)) (m_fault := m_fault) (m_place := m_place) (m_value := m_value) (m_isNot := m_isNot) (m_wide := m_wide) (m_gathered := 0) (LO := LO) (HI := HI) (MK := MK290) (P := (fun _ => False)) (bg := 0) (mq := 0) (ms := (m_taped + 2 - ((m_at + 1) + 0))) (by omega) (by omega) jtp (by omega) (by omega) (Int.toNat (m_taped + 2 - ((m_at + 1) + 0)) + 1) h80 h84 h87 h88 h93 h81 h82 (by omega) (fun _ => by omega) hq91 (fun _ => hq92) (fun _ => lfc_0 (fun _ h => h)) fx.rf rfl rfl (by omega) (fun G93 a294 f295 p296 v297 nt298 w299 g2100 m2101 LO2102 HI2103 MK2104 P2105 hN80 hN87 hN88 hN93 hq106 hq107 hq108 hq109 hq110 hfk hlk hsk => ?_)
    · have h84 := hfk.get h84 (by decide)
      have h81 := hfk.get h81 (by decide)
      have h82 := hfk.get h82 (by decide)
      have h91 := hfk.get h91 (by decide)
      have h92 := hfk.get h92 (by decide)
      have h110 := hfk.get h110 (by decide)
      have h111 := hfk.get h111 (by decide)
      have ptrI_0 := trI.fr hfk ptrI_0 (by decide) (by decide) (by decide) (by decide) (by decide) (by decide) (by decide) (by decide) (by decide) (by decide) (by decide) (by decide) (by decide) (by decide) (by decide) (by decide) (by decide) (by decide)
      have hfr := hfr.tr hfk (by decide)
      have hlen := hlk.trans hlen
      have hsl := hsk.trans hsl
      have h80 := hN80
      have h87 := hN87
      have h88 := hN88
      have h93 := hN93
      change ab_W _ _ _ G93 102 [some (vR 80), some (vz m_at), some (vz 0), none] [] _
      refine ab_aload_n d_MO_readClass_102 rfl ?_
      refine ab_getf (fs := mof m_thrown m_taped m_length m_out w299 g2100 m_sets m_ranges m_nodes a294 m_flags f295 p296 m_numbered m_depth v297 nt298 m_least0 m_most0 m_slot m_work m_got m_rowMany m_charAt m_charWide m_trail m_isMatch m_matchGroups m_allFrom m_allBefore m_founds m_pieces m_writtenMany m_templateWide m_tooMuch) f_MO_273 d_MO_readClass_103 h80.2.2 rfl ?_
      refine zz_if_le (tgt := 110) d_MO_readClass_106 (by decide) (by omega) (fun c111 => ?_) (fun c111 => ?_)
      · have hcj_ := hq107 (by omega)
        have hcc_ := hq109 (by omega)
        have hll_ := hq110 (by omega)
        obtain ⟨K, O, Fi, Be, Le, Mo, Z, LZ, SM, SA, QF, QL, AF, AL, SD, OA, OF, ON, h94, h95, h96, h97, h98, h99, h100, h101, h90, h89, h105, h106, h107, h108, h109, h102, h103, h104, jk, jo, jfi, jbe, jle, jmo, jz, jlz, jsm, jsa, jqf, jql, jaf, jal, jsd, joa, jof, jon, jt, cnd, cre, crs, crz, ck5, ck6, jss⟩ := ptrI_0
        refine ab_aload_n d_MO_readClass_110 rfl ?_
        refine ab_dup d_MO_readClass_111 rfl ?_
        refine ab_getf (fs := mof m_thrown m_taped m_length m_out w299 g2100 m_sets m_ranges m_nodes a294 m_flags f295 p296 m_numbered m_depth v297 nt298 m_least0 m_most0 m_slot m_work m_got m_rowMany m_charAt m_charWide m_trail m_isMatch m_matchGroups m_allFrom m_allBefore m_founds m_pieces m_writtenMany m_templateWide m_tooMuch) f_MO_279 d_MO_readClass_112 h80.2.2 rfl ?_
        refine zz_iconst d_MO_readClass_115 ?_
        refine zz_iadd d_MO_readClass_116 ?_
        refine ab_putf (fs := mof m_thrown m_taped m_length m_out w299 g2100 m_sets m_ranges m_nodes a294 m_flags f295 p296 m_numbered m_depth v297 nt298 m_least0 m_most0 m_slot m_work m_got m_rowMany m_charAt m_charWide m_trail m_isMatch m_matchGroups m_allFrom m_allBefore m_founds m_pieces m_writtenMany m_templateWide m_tooMuch) f_MO_279 (Or.inl rfl) d_MO_readClass_117 h80.2.2 (Nat.le_of_ble_eq_true rfl) (fun _ => ⟨rfl, rfl⟩) (h80.2.1 (by decide)) ?_
        obtain ⟨G112, eG112⟩ : ∃ z : ab_G, z = List.set G93 80 (ab_ob 12 (mof m_thrown m_taped m_length m_out w299 g2100 m_sets m_ranges m_nodes (a294 + 1) m_flags f295 p296 m_numbered m_depth v297 nt298 m_least0 m_most0 m_slot m_work m_got m_rowMany m_charAt m_charWide m_trail m_isMatch m_matchGroups m_allFrom m_allBefore m_founds m_pieces m_writtenMany m_templateWide m_tooMuch)) := ⟨_, rfl⟩
        have h84 := h84.keep h80 eG112 (by decide)
        have h87 := h87.keep h80 eG112 (by decide)
        have h88 := h88.keep h80 eG112 (by decide)
        have h93 := h93.keep h80 eG112 (by decide)
        have h81 := h81.keep h80 eG112 (by decide)
        have h82 := h82.keep h80 eG112 (by decide)
        have h91 := h91.keep h80 eG112 (by decide)
        have h92 := h92.keep h80 eG112 (by decide)
        have h110 := h110.keep h80 eG112 (by decide)
        have h111 := h111.keep h80 eG112 (by decide)
        have h94 := h94.keep h80 eG112 (by decide)
        have h95 := h95.keep h80 eG112 (by decide)
        have h96 := h96.keep h80 eG112 (by decide)
        have h97 := h97.keep h80 eG112 (by decide)
        have h98 := h98.keep h80 eG112 (by decide)
        have h99 := h99.keep h80 eG112 (by decide)
        have h100 := h100.keep h80 eG112 (by decide)
        have h101 := h101.keep h80 eG112 (by decide)
        have h90 := h90.keep h80 eG112 (by decide)
        have h89 := h89.keep h80 eG112 (by decide)
        have h105 := h105.keep h80 eG112 (by decide)
        have h106 := h106.keep h80 eG112 (by decide)
        have h107 := h107.keep h80 eG112 (by decide)
        have h108 := h108.keep h80 eG112 (by decide)
        have h109 := h109.keep h80 eG112 (by decide)
        have h102 := h102.keep h80 eG112 (by decide)
        have h103 := h103.keep h80 eG112 (by decide)
        have h104 := h104.keep h80 eG112 (by decide)
        have hlen := (z_len eG112).trans hlen
        have hsl := (z_sl h80 eG112 rfl).trans hsl
        have hfr := hfr.wr h80 eG112 (by decide)
        have h80 := h80.kept eG112
        change ab_W _ _ _ (List.set G93 80 (ab_ob 12 (mof m_thrown m_taped m_length m_out w299 g2100 m_sets m_ranges m_nodes (a294 + 1) m_flags f295 p296 m_numbered m_depth v297 nt298 m_least0 m_most0 m_slot m_work m_got m_rowMany m_charAt m_charWide m_trail m_isMatch m_matchGroups m_allFrom m_allBefore m_founds m_pieces m_writtenMany m_templateWide m_tooMuch))) 120 [some (vR 80), some (vz m_at), some (vz 0), none] [] _
        rw [← eG112]
        refine ab_aload_n d_MO_readClass_120 rfl ?_
        refine ab_aload_n d_MO_readClass_121 rfl ?_
        refine ab_aload_n d_MO_readClass_122 rfl ?_
        refine ab_iload_n d_MO_readClass_123 rfl ?_
        refine ab_callV (d' := d - 1) (as := [vz 0]) (st := [vR 80, vR 80]) (r := _) (z_MO_close (o := o) (m_thrown := m_thrown) (m_taped := m_taped) (m_length := m_length) (m_out := m_out) (m_wide := w299) (m_gathered := g2100) (m_sets := m_sets) (m_ranges := m_ranges) (m_nodes := m_nodes) (m_at := (a294 + 1)) (m_flags := m_flags) (m_fault := f295) (m_place := p296) (m_numbered := m_numbered) (m_depth := m_depth) (m_value := v297) (m_isNot := nt298) (m_least0 := m_least0) (m_most0 := m_most0) (m_slot := m_slot) (m_work := m_work) (m_got := m_got) (m_rowMany := m_rowMany) (m_charAt := m_charAt) (m_charWide := m_charWide) (m_trail := m_trail) (m_isMatch := m_isMatch) (m_matchGroups := m_matchGroups) (m_allFrom := m_allFrom) (m_allBefore := m_allBefore) (m_founds := m_founds) (m_pieces := m_pieces) (m_writtenMany := m_writtenMany) (m_templateWide := m_templateWide) (m_tooMuch := m_tooMuch) (LO := LO2102) (HI := HI2103) (MK := MK2104) (RL := RL) (RH := RH) (SA := SA) (SM := SM) (P := P2105) (nt := 0) (mm := m2101) h80 h87 h88 h93 h91 h92 h89 h90 (by omega) hq108 (by omega) hcc_ hll_ jrl jrh (by omega)) (fun oc G2 h => by rcases h with ⟨_, _, _, _, _, _, h, _⟩ <;> exact ⟨_, h⟩) (by omega) m_MO_close ml_MO_368 im_MO_close se_MO_close c_MO h80.2.2 (Nat.le_of_ble_eq_true rfl) d_MO_readClass_124 rfl ?_
        intro v G113 hq
        rcases hq with ⟨g2114, r2115, LO2116, HI2117, RL2118, RH2119, hv, hfk, hlk, hsk, hN80, hN87, hN88, hN91, hN92, hN89, hN90, hq120, hq121, hq122⟩
        cases hv
        have h84 := hfk.get h84 (by decide)
        have h93 := hfk.get h93 (by decide)
        have h81 := hfk.get h81 (by decide)
        have h82 := hfk.get h82 (by decide)
        have h110 := hfk.get h110 (by decide)
        have h111 := hfk.get h111 (by decide)
        have h94 := hfk.get h94 (by decide)
        have h95 := hfk.get h95 (by decide)
        have h96 := hfk.get h96 (by decide)
        have h97 := hfk.get h97 (by decide)
        have h98 := hfk.get h98 (by decide)
        have h99 := hfk.get h99 (by decide)
        have h100 := hfk.get h100 (by decide)
        have h101 := hfk.get h101 (by decide)
        have h105 := hfk.get h105 (by decide)
        have h106 := hfk.get h106 (by decide)
        have h107 := hfk.get h107 (by decide)
        have h108 := hfk.get h108 (by decide)
        have h109 := hfk.get h109 (by decide)
        have h102 := hfk.get h102 (by decide)
        have h103 := hfk.get h103 (by decide)
        have h104 := hfk.get h104 (by decide)
        have hfr := hfr.tr hfk (by decide)
        have hlen := hlk.trans hlen
        have hsl := hsk.trans hsl
        have h80 := hN80
        have h87 := hN87
        have h88 := hN88
        have h91 := hN91
        have h92 := hN92
        have h89 := hN89
        have h90 := hN90
        change ab_W _ _ _ G113 127 [some (vR 80), some (vz m_at), some (vz 0), none] [vz m_sets, vR 80, vR 80] _
        refine zz_iconst d_MO_readClass_127 ?_
        refine ab_callV (d' := d - 1) (as := [vz m_sets, vz 0]) (st := [vR 80]) (r := _) (z_MO_setNode (o := o) (m_thrown := m_thrown) (m_taped := m_taped) (m_length := m_length) (m_out := m_out) (m_wide := w299) (m_gathered := g2114) (m_sets := (m_sets + 1)) (m_ranges := r2115) (m_nodes := m_nodes) (m_at := (a294 + 1)) (m_flags := m_flags) (m_fault := f295) (m_place := p296) (m_numbered := m_numbered) (m_depth := m_depth) (m_value := v297) (m_isNot := nt298) (m_least0 := m_least0) (m_most0 := m_most0) (m_slot := m_slot) (m_work := m_work) (m_got := m_got) (m_rowMany := m_rowMany) (m_charAt := m_charAt) (m_charWide := m_charWide) (m_trail := m_trail) (m_isMatch := m_isMatch) (m_matchGroups := m_matchGroups) (m_allFrom := m_allFrom) (m_allBefore := m_allBefore) (m_founds := m_founds) (m_pieces := m_pieces) (m_writtenMany := m_writtenMany) (m_templateWide := m_templateWide) (m_tooMuch := m_tooMuch) (K := K) (O := O) (Fi := Fi) (Be := Be) (Z := Z) (SM := (zu SM m_sets (r2115 - m_ranges))) (s := m_sets) (on := 0) h80 h90 h94 h95 h96 h97 h100 (by omega) (by omega) (rgs_zu jsm (by omega)) (by omega)) (fun oc G2 h => by rcases h with ⟨_, h, _⟩ <;> exact ⟨_, h⟩) (by omega) m_MO_setNode ml_MO_371 im_MO_setNode se_MO_setNode c_MO h80.2.2 (Nat.le_of_ble_eq_true rfl) d_MO_readClass_128 rfl ?_
        intro v G123 hq
        rcases hq with ⟨z2124, hv, hfk, hlk, hsk, hN80, hN94, hN95, hN96, hN97, hN100, hq125⟩
        cases hv
        have h84 := hfk.get h84 (by decide)
        have h87 := hfk.get h87 (by decide)
        have h88 := hfk.get h88 (by decide)
        have h93 := hfk.get h93 (by decide)
        have h81 := hfk.get h81 (by decide)
        have h82 := hfk.get h82 (by decide)
        have h91 := hfk.get h91 (by decide)
        have h92 := hfk.get h92 (by decide)
        have h110 := hfk.get h110 (by decide)
        have h111 := hfk.get h111 (by decide)
        have h98 := hfk.get h98 (by decide)
        have h99 := hfk.get h99 (by decide)
        have h101 := hfk.get h101 (by decide)
        have h90 := hfk.get h90 (by decide)
        have h89 := hfk.get h89 (by decide)
        have h105 := hfk.get h105 (by decide)
        have h106 := hfk.get h106 (by decide)
        have h107 := hfk.get h107 (by decide)
        have h108 := hfk.get h108 (by decide)
        have h109 := hfk.get h109 (by decide)
        have h102 := hfk.get h102 (by decide)
        have h103 := hfk.get h103 (by decide)
        have h104 := hfk.get h104 (by decide)
        have hfr := hfr.tr hfk (by decide)
        have hlen := hlk.trans hlen
        have hsl := hsk.trans hsl
        have h80 := hN80
        have h94 := hN94
        have h95 := hN95
        have h96 := hN96
        have h97 := hN97
        have h100 := hN100
        change ab_W _ _ _ G123 131 [some (vR 80), some (vz m_at), some (vz 0), none] [vz m_nodes, vR 80] _
        have hsz_ : zu SM m_sets (r2115 - m_ranges) m_sets = (r2115 - m_ranges) := zu_self _ _ _
        have ptrI_0 : trI o G123 0 (m_nodes + 1) (m_sets + 1) (m_depth + 1) m_nodes 0 6 := ⟨(zu K m_nodes 1), (zu O m_nodes m_sets), (zu Fi m_nodes (-1)), (zu Be m_nodes (-1)), Le, Mo, (zu Z m_nodes z2124), LZ, (zu SM m_sets (r2115 - m_ranges)), (zu SA m_sets m_ranges), QF, QL, AF, AL, SD, OA, OF, ON, h94, h95, h96, h97, h98, h99, h100, h101, h90, h89, h105, h106, h107, h108, h109, h102, h103, h104, (rgs_zu jk (by omega)), (rgs_zu jo (by omega)), (rgs_zu jfi (by omega)), (rgs_zu jbe (by omega)), jle, jmo, (rgs_zu jz (by omega)), jlz, (rgs_zu jsm (by omega)), (rgs_zu jsa (by omega)), jqf, jql, jaf, jal, jsd, joa, jof, jon, (rtr_leaf (rtr_ns jt) (by omega) (Or.inr (Or.inl ⟨rfl, by omega, by omega, by omega, by rw [zu_self]; omega⟩))), (by omega), (fun h => absurd h (by decide)), (fun h => absurd h (by decide)), (fun h => absurd h (by decide)), (fun h => absurd h (by decide)), (fun _ => by rw [zu_self]; decide), (sas_s jss (by omega))⟩
        refine zz_iconst d_MO_readClass_131 ?_
        refine ab_callV (d' := d - 1) (as := [vz m_nodes, vz 1]) (st := []) (r := _) (z_MO_part (o := o) (m_thrown := m_thrown) (m_taped := m_taped) (m_length := m_length) (m_out := m_out) (m_wide := w299) (m_gathered := g2114) (m_sets := (m_sets + 1)) (m_ranges := r2115) (m_nodes := (m_nodes + 1)) (m_at := (a294 + 1)) (m_flags := m_flags) (m_fault := f295) (m_place := p296) (m_numbered := m_numbered) (m_depth := m_depth) (m_value := v297) (m_isNot := nt298) (m_least0 := m_least0) (m_most0 := m_most0) (m_slot := m_slot) (m_work := m_work) (m_got := m_got) (m_rowMany := m_rowMany) (m_charAt := m_charAt) (m_charWide := m_charWide) (m_trail := m_trail) (m_isMatch := m_isMatch) (m_matchGroups := m_matchGroups) (m_allFrom := m_allFrom) (m_allBefore := m_allBefore) (m_founds := m_founds) (m_pieces := m_pieces) (m_writtenMany := m_writtenMany) (m_templateWide := m_templateWide) (m_tooMuch := m_tooMuch) (x := m_nodes) (s := 1) (dh := 0) h80 ptrI_0 (by omega) (by omega) (by omega) (by omega)) (fun oc G2 h => by rcases h with ⟨h, _⟩ <;> exact ⟨_, h⟩) (by omega) m_MO_part ml_MO_375 im_MO_part se_MO_part c_MO h80.2.2 (Nat.le_of_ble_eq_true rfl) d_MO_readClass_132 rfl ?_
        intro v G126 hq
        rcases hq with ⟨hv, hfk, hlk, hsk, pNtrI_0⟩
        cases hv
        have h80 := hfk.get h80 (by decide)
        have h84 := hfk.get h84 (by decide)
        have h87 := hfk.get h87 (by decide)
        have h88 := hfk.get h88 (by decide)
        have h93 := hfk.get h93 (by decide)
        have h81 := hfk.get h81 (by decide)
        have h82 := hfk.get h82 (by decide)
        have h91 := hfk.get h91 (by decide)
        have h92 := hfk.get h92 (by decide)
        have h110 := hfk.get h110 (by decide)
        have h111 := hfk.get h111 (by decide)
        have ptrI_0 := pNtrI_0
        have hfr := hfr.tr hfk (by decide)
        have hlen := hlk.trans hlen
        have hsl := hsk.trans hsl
        change ab_W _ _ _ G126 135 [some (vR 80), some (vz m_at), some (vz 0), none] [] _
        refine ab_vret rfl d_MO_readClass_135 ?_
        rw [hQ]; exact (Or.inr ⟨_, _, _, _, _, _, _, _, _, _, _, _, _, _, _, _, _, _, _, _, _, _, rfl, hfr, hlen, hsl, h80, h87, h88, h93, h91, h92, h110, h111, ptrI_0, (by omega), (by first | exact hq108 | exact rgs_w hq108 (by omega)), (by first | exact hq120 | exact rgs_w hq120 (by omega)), (by first | exact hq121 | exact rgs_w hq121 (by omega)), (by first | exact jns | exact rgs_w jns (by omega)), (by first | exact jnm | exact rgs_w jnm (by omega))⟩)
      · refine ab_vret rfl d_MO_readClass_109 ?_
        rw [hQ]; exact (Or.inr ⟨_, _, _, _, _, _, _, _, _, _, _, _, _, _, _, _, _, _, _, _, _, _, rfl, hfr, hlen, hsl, h80, h87, h88, h93, h91, h92, h110, h111, ptrI_0, (by omega), (by first | exact hq108 | exact rgs_w hq108 (by omega)), (by first | exact jrl | exact rgs_w jrl (by omega)), (by first | exact jrh | exact rgs_w jrh (by omega)), (by first | exact jns | exact rgs_w jns (by omega)), (by first | exact jnm | exact rgs_w jnm (by omega))⟩)
