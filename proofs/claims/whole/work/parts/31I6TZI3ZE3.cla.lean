set_option maxRecDepth 100000 in
set_option maxHeartbeats 4000000 in
theorem y_MO_readClass_55 {X : ab_X} {d : Nat} {Q : Outcome → ab_G → Prop} {o : Nat → Nat} {G0 : ab_G} {m_thrown : Int} {m_taped : Int} {m_length : Int} {m_out : Int} {m_sets : Int} {m_ranges : Int} {m_nodes : Int} {m_flags : Int} {m_numbered : Int} {m_depth : Int} {m_least0 : Int} {m_most0 : Int} {m_slot : Int} {m_work : Int} {m_got : Int} {m_rowMany : Int} {m_charAt : Int} {m_charWide : Int} {m_trail : Int} {m_isMatch : Int} {m_matchGroups : Int} {m_allFrom : Int} {m_allBefore : Int} {m_founds : Int} {m_pieces : Int} {m_writtenMany : Int} {m_templateWide : Int} {m_tooMuch : Int} {A_tape : Int → Int} {wh : Int} {nt : Int} {a0 : Int} {pl0 : Int} (n18 : ab_n0 = 18) (cta : 0 ≤ m_taped ∧ m_taped ≤ 2000) (jtp : rgs A_tape 2000 0 255) (cwh : -1 ≤ wh ∧ wh ≤ 2010 ∧ 0 ≤ a0 ∧ a0 ≤ 2001) (cfl : 0 ≤ m_flags ∧ m_flags ≤ 15) (hd : 6 ≤ d) : ∀ (mz : Nat) {G : ab_G} {m_at : Int} {m_fault : Int} {m_place : Int} {m_value : Int} {m_isNot : Int} {m_wide : Int} {m_gathered : Int} {LO : Int → Int} {HI : Int → Int} {MK : Int → Int} {P : Int → Prop} {bg : Int} {mq : Int} {ms : Int}, (cc o G 80 280 (ab_ob 12 (mof m_thrown m_taped m_length m_out m_wide m_gathered m_sets m_ranges m_nodes m_at m_flags m_fault m_place m_numbered m_depth m_value m_isNot m_least0 m_most0 m_slot m_work m_got m_rowMany m_charAt m_charWide m_trail m_isMatch m_matchGroups m_allFrom m_allBefore m_founds m_pieces m_writtenMany m_templateWide m_tooMuch))) → (cc o G 84 284 (za 2000 A_tape)) → (cc o G 87 287 (za 9000 LO)) → (cc o G 88 288 (za 9000 HI)) → (cc o G 93 293 (zb 1200 MK)) → (cc o G 81 281 (za 13 tbA)) → (cc o G 82 282 (za 66 tbT)) → (0 ≤ m_fault ∧ m_fault ≤ 14 ∧ 0 ≤ m_at ∧ m_at ≤ 4000 ∧ 0 ≤ bg ∧ bg ≤ 1 ∧ 0 ≤ m_gathered ∧ m_gathered ≤ 6710 ∧ 0 ≤ ms ∧ -2147483648 ≤ m_value ∧ m_value ≤ 2147483647) → (m_fault = 0 → a0 ≤ m_at ∧ m_at ≤ m_taped ∧ 3 * m_gathered ≤ 10 * (m_at - a0) ∧ 0 ≤ mq ∧ mq ≤ 11 * (m_at - a0) ∧ ms = m_taped + 2 - m_at) → (rgs MK 1200 0 1) → (m_fault = 0 → clsI LO HI m_gathered MK P) → (m_fault = 0 → lfc P mq) → (clH A_tape m_taped (m_flags % 2) wh a0 m_at P m_fault m_place) → ((bg = 0 ∧ m_at = a0) ∨ (bg = 1 ∧ a0 < m_at + 5000 * m_fault)) → (1 ≤ m_fault ∨ m_place = pl0) → (fx o o [280, 287, 288, 293] G0 G) → (G.length = G0.length) → (ab_slots G = ab_slots G0) → (Int.toNat ms < mz) → (∀ (G2 : ab_G) (a2 : Int) (f2 : Int) (p2 : Int) (v2 : Int) (nt2 : Int) (w2 : Int) (g2 : Int) (m2 : Int) (LO2 : Int → Int) (HI2 : Int → Int) (MK2 : Int → Int) (P2 : Int → Prop), (cc o G2 80 280 (ab_ob 12 (mof m_thrown m_taped m_length m_out w2 g2 m_sets m_ranges m_nodes a2 m_flags f2 p2 m_numbered m_depth v2 nt2 m_least0 m_most0 m_slot m_work m_got m_rowMany m_charAt m_charWide m_trail m_isMatch m_matchGroups m_allFrom m_allBefore m_founds m_pieces m_writtenMany m_templateWide m_tooMuch))) → (cc o G2 87 287 (za 9000 LO2)) → (cc o G2 88 288 (za 9000 HI2)) → (cc o G2 93 293 (zb 1200 MK2)) → (0 ≤ f2 ∧ f2 ≤ 14 ∧ 0 ≤ a2 ∧ a2 ≤ 4000 ∧ 0 ≤ g2 ∧ g2 ≤ 6710 ∧ -2147483648 ≤ v2 ∧ v2 ≤ 2147483647) → (f2 = 0 → a0 ≤ a2 ∧ a2 < m_taped ∧ 0 ≤ m2 ∧ m2 ≤ 11 * (a2 - a0)) → (rgs MK2 1200 0 1) → (f2 = 0 → clsI LO2 HI2 g2 MK2 P2) → (f2 = 0 → lfc P2 m2) → (clH A_tape m_taped (m_flags % 2) wh a0 a2 P2 f2 p2) → (1 ≤ f2 ∨ (tpk A_tape m_taped a2 = 93 ∧ a0 < a2)) → (1 ≤ f2 ∨ p2 = pl0) → (fx o o [280, 287, 288, 293] G0 G2) → (G2.length = G0.length) → (ab_slots G2 = ab_slots G0) → ab_W X (ab_pl y_MO_readClass b_MO_readClass 4 none) d G2 102 [some (vR 80), some (vz wh), some (vz nt), none] [] Q) → ab_W X (ab_pl y_MO_readClass b_MO_readClass 4 none) d G 55 [some (vR 80), some (vz wh), some (vz nt), some (vz bg)] [] Q := by
  intro mz
  induction mz with
  | zero => intro G m_at m_fault m_place m_value m_isNot m_wide m_gathered LO HI MK P bg mq ms h80 h84 h87 h88 h93 h81 h82 ci cj jmk jc jl jh jb jp hfr hlen hsl hm hk0; exact absurd hm (Nat.not_lt_zero _)
  | succ mz ih =>
    intro G m_at m_fault m_place m_value m_isNot m_wide m_gathered LO HI MK P bg mq ms h80 h84 h87 h88 h93 h81 h82 ci cj jmk jc jl jh jb jp hfr hlen hsl hm hk0
    refine ab_aload_n d_MO_readClass_55 rfl ?_
    refine ab_getf (fs := mof m_thrown m_taped m_length m_out m_wide m_gathered m_sets m_ranges m_nodes m_at m_flags m_fault m_place m_numbered m_depth m_value m_isNot m_least0 m_most0 m_slot m_work m_got m_rowMany m_charAt m_charWide m_trail m_isMatch m_matchGroups m_allFrom m_allBefore m_founds m_pieces m_writtenMany m_templateWide m_tooMuch) f_MO_273 d_MO_readClass_56 h80.2.2 rfl ?_
    refine zz_if_ne (tgt := 102) d_MO_readClass_59 (by decide) (by omega) (fun c1 => ?_) (fun c1 => ?_)
    · refine ab_less (L' := [some (vR 80), some (vz wh), some (vz nt), none]) (fun i v h => by rcases i with _ | _ | _ | _ | i <;> first | exact h | (simp at h)) ?_
      exact hk0 _ _ _ _ _ _ _ _ mq _ _ _ P h80 h87 h88 h93 (by omega) (by intro hf_; omega) (by first | exact jmk | exact rgs_w jmk (by omega)) (by exact jc) (by exact jl) (by exact jh) (by omega) (by omega) hfr hlen hsl
    · have hcj_ := cj (by omega)
      have jc_ := jc (by omega)
      have jl_ := jl (by omega)
      refine ab_aload_n d_MO_readClass_62 rfl ?_
      refine zz_iconst d_MO_readClass_63 ?_
      refine ab_callV (d' := d - 1) (as := [vz 0]) (st := []) (r := _) (z_MO_here (o := o) (m_thrown := m_thrown) (m_taped := m_taped) (m_length := m_length) (m_out := m_out) (m_wide := m_wide) (m_gathered := m_gathered) (m_sets := m_sets) (m_ranges := m_ranges) (m_nodes := m_nodes) (m_at := m_at) (m_flags := m_flags) (m_fault := m_fault) (m_place := m_place) (m_numbered := m_numbered) (m_depth := m_depth) (m_value := m_value) (m_isNot := m_isNot) (m_least0 := m_least0) (m_most0 := m_most0) (m_slot := m_slot) (m_work := m_work) (m_got := m_got) (m_rowMany := m_rowMany) (m_charAt := m_charAt) (m_charWide := m_charWide) (m_trail := m_trail) (m_isMatch := m_isMatch) (m_matchGroups := m_matchGroups) (m_allFrom := m_allFrom) (m_allBefore := m_allBefore) (m_founds := m_founds) (m_pieces := m_pieces) (m_writtenMany := m_writtenMany) (m_templateWide := m_templateWide) (m_tooMuch := m_tooMuch) (A_tape := A_tape) (k := 0) (qh := m_at) h80 h84 (by omega) (by omega) jtp (by omega) (by omega)) (fun oc G2 h => by rcases h with ⟨h, _⟩ | ⟨h, _⟩ <;> exact ⟨_, h⟩) (by omega) m_MO_here ml_MO_297 im_MO_here se_MO_here c_MO h80.2.2 (Nat.le_of_ble_eq_true rfl) d_MO_readClass_64 rfl ?_
      intro v G2 hq
      rcases hq with ⟨hv, hGe, hq3⟩ | ⟨hv, hGe, hq4, hq5⟩
      · cases hv
        rw [hGe]
        change ab_W _ _ _ G 67 [some (vR 80), some (vz wh), some (vz nt), some (vz bg)] [vz (tpk A_tape m_taped m_at)] _
        refine zz_bipush d_MO_readClass_67 (by decide) ?_
        refine zz_icmp_ne (tgt := 76) d_MO_readClass_69 (by decide) (by omega) (by decide) (fun c6 => ?_) (fun c6 => ?_)
        · refine ab_aload_n d_MO_readClass_76 rfl ?_
          refine zz_iconst d_MO_readClass_77 ?_
          refine ab_callV (d' := d - 1) (as := [vz 0]) (st := []) (r := _) (z_MO_here (o := o) (m_thrown := m_thrown) (m_taped := m_taped) (m_length := m_length) (m_out := m_out) (m_wide := m_wide) (m_gathered := m_gathered) (m_sets := m_sets) (m_ranges := m_ranges) (m_nodes := m_nodes) (m_at := m_at) (m_flags := m_flags) (m_fault := m_fault) (m_place := m_place) (m_numbered := m_numbered) (m_depth := m_depth) (m_value := m_value) (m_isNot := m_isNot) (m_least0 := m_least0) (m_most0 := m_most0) (m_slot := m_slot) (m_work := m_work) (m_got := m_got) (m_rowMany := m_rowMany) (m_charAt := m_charAt) (m_charWide := m_charWide) (m_trail := m_trail) (m_isMatch := m_isMatch) (m_matchGroups := m_matchGroups) (m_allFrom := m_allFrom) (m_allBefore := m_allBefore) (m_founds := m_founds) (m_pieces := m_pieces) (m_writtenMany := m_writtenMany) (m_templateWide := m_templateWide) (m_tooMuch := m_tooMuch) (A_tape := A_tape) (k := 0) (qh := m_at) h80 h84 (by omega) (by omega) jtp (by omega) (by omega)) (fun oc G2 h => by rcases h with ⟨h, _⟩ | ⟨h, _⟩ <;> exact ⟨_, h⟩) (by omega) m_MO_here ml_MO_297 im_MO_here se_MO_here c_MO h80.2.2 (Nat.le_of_ble_eq_true rfl) d_MO_readClass_78 rfl ?_
          intro v G7 hq
          rcases hq with ⟨hv, hGe, hq8⟩ | ⟨hv, hGe, hq9, hq10⟩
          · cases hv
            rw [hGe]
            change ab_W _ _ _ G 81 [some (vR 80), some (vz wh), some (vz nt), some (vz bg)] [vz (tpk A_tape m_taped m_at)] _
            refine zz_if_ge (tgt := 93) d_MO_readClass_81 (by decide) (by omega) (fun c11 => ?_) (fun c11 => absurd c11 (by omega))
            refine ab_aload_n d_MO_readClass_93 rfl ?_
            refine ab_callV (d' := d - 1) (as := []) (st := []) (r := _) (z_MO_item (o := o) (m_thrown := m_thrown) (m_taped := m_taped) (m_length := m_length) (m_out := m_out) (m_wide := m_wide) (m_gathered := m_gathered) (m_sets := m_sets) (m_ranges := m_ranges) (m_nodes := m_nodes) (m_at := m_at) (m_flags := m_flags) (m_fault := m_fault) (m_place := m_place) (m_numbered := m_numbered) (m_depth := m_depth) (m_value := m_value) (m_isNot := m_isNot) (m_least0 := m_least0) (m_most0 := m_most0) (m_slot := m_slot) (m_work := m_work) (m_got := m_got) (m_rowMany := m_rowMany) (m_charAt := m_charAt) (m_charWide := m_charWide) (m_trail := m_trail) (m_isMatch := m_isMatch) (m_matchGroups := m_matchGroups) (m_allFrom := m_allFrom) (m_allBefore := m_allBefore) (m_founds := m_founds) (m_pieces := m_pieces) (m_writtenMany := m_writtenMany) (m_templateWide := m_templateWide) (m_tooMuch := m_tooMuch) (A_tape := A_tape) (LO := LO) (HI := HI) (MK := MK) (P := P) (mm := mq) h80 h84 h93 h87 h88 h81 h82 (by omega) (by omega) jtp (by omega) (by omega) (by omega) (by omega) jmk jc_ jl_ (by omega) (by omega)) (fun oc G2 h => by rcases h with ⟨_, _, _, _, _, _, _, _, _, _, h, _⟩ | ⟨_, _, _, _, _, _, _, _, _, _, h, _⟩ <;> exact ⟨_, h⟩) (by omega) m_MO_item ml_MO_365 im_MO_item se_MO_item c_MO h80.2.2 (Nat.le_of_ble_eq_true rfl) d_MO_readClass_94 rfl ?_
            intro v G12 hq
            rcases hq with ⟨a213, f214, p215, v216, nt217, w218, g219, LO220, HI221, MK222, hv, hfk, hlk, hsk, hN80, hN87, hN88, hN93, hq23, hq24, hq25⟩ | ⟨a226, v227, nt228, w229, g230, m231, LO232, HI233, MK234, P235, hv, hfk, hlk, hsk, hN80, hN87, hN88, hN93, hq36, hq37, hq38, hq39, hq40⟩
            · cases hv
              have h84 := hfk.get h84 (by decide)
              have h81 := hfk.get h81 (by decide)
              have h82 := hfk.get h82 (by decide)
              have hfr := hfr.tr hfk (by decide)
              have hlen := hlk.trans hlen
              have hsl := hsk.trans hsl
              have h80 := hN80
              have h87 := hN87
              have h88 := hN88
              have h93 := hN93
              change ab_W _ _ _ G12 97 [some (vR 80), some (vz wh), some (vz nt), some (vz bg)] [] _
              refine zz_iconst d_MO_readClass_97 ?_
              refine ab_istore_n d_MO_readClass_98 (Nat.le_of_ble_eq_true rfl) (Nat.le_of_ble_eq_true rfl) rfl ?_
              change ab_W _ _ _ G12 99 [some (vR 80), some (vz wh), some (vz nt), some (vz 1)] [] _
              refine ab_goto (tgt := 55) d_MO_readClass_99 (by decide) ?_
              exact ih (m_at := a213) (m_fault := f214) (m_place := p215) (m_value := v216) (m_isNot := nt217) (m_wide := w218) (m_gathered := g219) (LO := LO220) (HI := HI221) (MK := MK222) (P := P) (bg := 1) (mq := mq) (ms := 0) h80 h84 h87 h88 h93 h81 h82 (by omega) (fun h => absurd h (by omega)) hq24 (fun h => absurd h (by omega)) (fun h => absurd h (by omega)) (clH_f (clH_t jh (by omega)) (fun z => by have z1 := z.1; have z2 := z.2; omega) (by omega) (hq25 wh)) (by omega) (by omega) hfr hlen hsl (by omega) hk0
            · cases hv
              have h84 := hfk.get h84 (by decide)
              have h81 := hfk.get h81 (by decide)
              have h82 := hfk.get h82 (by decide)
              have hfr := hfr.tr hfk (by decide)
              have hlen := hlk.trans hlen
              have hsl := hsk.trans hsl
              have h80 := hN80
              have h87 := hN87
              have h88 := hN88
              have h93 := hN93
              change ab_W _ _ _ G12 97 [some (vR 80), some (vz wh), some (vz nt), some (vz bg)] [] _
              refine zz_iconst d_MO_readClass_97 ?_
              refine ab_istore_n d_MO_readClass_98 (Nat.le_of_ble_eq_true rfl) (Nat.le_of_ble_eq_true rfl) rfl ?_
              change ab_W _ _ _ G12 99 [some (vR 80), some (vz wh), some (vz nt), some (vz 1)] [] _
              refine ab_goto (tgt := 55) d_MO_readClass_99 (by decide) ?_
              exact ih (m_at := a226) (m_fault := m_fault) (m_place := m_place) (m_value := v227) (m_isNot := nt228) (m_wide := w229) (m_gathered := g230) (LO := LO232) (HI := HI233) (MK := MK234) (P := P235) (bg := 1) (mq := m231) (ms := (m_taped + 2 - a226)) h80 h84 h87 h88 h93 h81 h82 (by omega) (fun _ => by omega) hq37 (fun _ => hq38) (fun _ => hq39) (clH_s (by omega) (clH_t jh (by omega)) (fun z => by have z1 := z.1; have z2 := z.2; omega) hq40) (by omega) (by omega) hfr hlen hsl (by omega) hk0
          · cases hv
            rw [hGe]
            change ab_W _ _ _ G 81 [some (vR 80), some (vz wh), some (vz nt), some (vz bg)] [vz (-1)] _
            exfalso; omega
        · refine ab_iload_n d_MO_readClass_72 rfl ?_
          refine zz_if_ne (tgt := 102) d_MO_readClass_73 (by decide) (by omega) (fun c41 => ?_) (fun c41 => ?_)
          · refine ab_less (L' := [some (vR 80), some (vz wh), some (vz nt), none]) (fun i v h => by rcases i with _ | _ | _ | _ | i <;> first | exact h | (simp at h)) ?_
            exact hk0 _ _ _ _ _ _ _ _ mq _ _ _ P h80 h87 h88 h93 (by omega) (by intro hf_; omega) (by first | exact jmk | exact rgs_w jmk (by omega)) (by exact jc) (by exact jl) (by exact jh) (by omega) (by omega) hfr hlen hsl
          · refine ab_aload_n d_MO_readClass_76 rfl ?_
            refine zz_iconst d_MO_readClass_77 ?_
            refine ab_callV (d' := d - 1) (as := [vz 0]) (st := []) (r := _) (z_MO_here (o := o) (m_thrown := m_thrown) (m_taped := m_taped) (m_length := m_length) (m_out := m_out) (m_wide := m_wide) (m_gathered := m_gathered) (m_sets := m_sets) (m_ranges := m_ranges) (m_nodes := m_nodes) (m_at := m_at) (m_flags := m_flags) (m_fault := m_fault) (m_place := m_place) (m_numbered := m_numbered) (m_depth := m_depth) (m_value := m_value) (m_isNot := m_isNot) (m_least0 := m_least0) (m_most0 := m_most0) (m_slot := m_slot) (m_work := m_work) (m_got := m_got) (m_rowMany := m_rowMany) (m_charAt := m_charAt) (m_charWide := m_charWide) (m_trail := m_trail) (m_isMatch := m_isMatch) (m_matchGroups := m_matchGroups) (m_allFrom := m_allFrom) (m_allBefore := m_allBefore) (m_founds := m_founds) (m_pieces := m_pieces) (m_writtenMany := m_writtenMany) (m_templateWide := m_templateWide) (m_tooMuch := m_tooMuch) (A_tape := A_tape) (k := 0) (qh := m_at) h80 h84 (by omega) (by omega) jtp (by omega) (by omega)) (fun oc G2 h => by rcases h with ⟨h, _⟩ | ⟨h, _⟩ <;> exact ⟨_, h⟩) (by omega) m_MO_here ml_MO_297 im_MO_here se_MO_here c_MO h80.2.2 (Nat.le_of_ble_eq_true rfl) d_MO_readClass_78 rfl ?_
            intro v G42 hq
            rcases hq with ⟨hv, hGe, hq43⟩ | ⟨hv, hGe, hq44, hq45⟩
            · cases hv
              rw [hGe]
              change ab_W _ _ _ G 81 [some (vR 80), some (vz wh), some (vz nt), some (vz bg)] [vz (tpk A_tape m_taped m_at)] _
              refine zz_if_ge (tgt := 93) d_MO_readClass_81 (by decide) (by omega) (fun c46 => ?_) (fun c46 => absurd c46 (by omega))
              refine ab_aload_n d_MO_readClass_93 rfl ?_
              refine ab_callV (d' := d - 1) (as := []) (st := []) (r := _) (z_MO_item (o := o) (m_thrown := m_thrown) (m_taped := m_taped) (m_length := m_length) (m_out := m_out) (m_wide := m_wide) (m_gathered := m_gathered) (m_sets := m_sets) (m_ranges := m_ranges) (m_nodes := m_nodes) (m_at := m_at) (m_flags := m_flags) (m_fault := m_fault) (m_place := m_place) (m_numbered := m_numbered) (m_depth := m_depth) (m_value := m_value) (m_isNot := m_isNot) (m_least0 := m_least0) (m_most0 := m_most0) (m_slot := m_slot) (m_work := m_work) (m_got := m_got) (m_rowMany := m_rowMany) (m_charAt := m_charAt) (m_charWide := m_charWide) (m_trail := m_trail) (m_isMatch := m_isMatch) (m_matchGroups := m_matchGroups) (m_allFrom := m_allFrom) (m_allBefore := m_allBefore) (m_founds := m_founds) (m_pieces := m_pieces) (m_writtenMany := m_writtenMany) (m_templateWide := m_templateWide) (m_tooMuch := m_tooMuch) (A_tape := A_tape) (LO := LO) (HI := HI) (MK := MK) (P := P) (mm := mq) h80 h84 h93 h87 h88 h81 h82 (by omega) (by omega) jtp (by omega) (by omega) (by omega) (by omega) jmk jc_ jl_ (by omega) (by omega)) (fun oc G2 h => by rcases h with ⟨_, _, _, _, _, _, _, _, _, _, h, _⟩ | ⟨_, _, _, _, _, _, _, _, _, _, h, _⟩ <;> exact ⟨_, h⟩) (by omega) m_MO_item ml_MO_365 im_MO_item se_MO_item c_MO h80.2.2 (Nat.le_of_ble_eq_true rfl) d_MO_readClass_94 rfl ?_
              intro v G47 hq
              rcases hq with ⟨a248, f249, p250, v251, nt252, w253, g254, LO255, HI256, MK257, hv, hfk, hlk, hsk, hN80, hN87, hN88, hN93, hq58, hq59, hq60⟩ | ⟨a261, v262, nt263, w264, g265, m266, LO267, HI268, MK269, P270, hv, hfk, hlk, hsk, hN80, hN87, hN88, hN93, hq71, hq72, hq73, hq74, hq75⟩
              · cases hv
                have h84 := hfk.get h84 (by decide)
                have h81 := hfk.get h81 (by decide)
                have h82 := hfk.get h82 (by decide)
                have hfr := hfr.tr hfk (by decide)
                have hlen := hlk.trans hlen
                have hsl := hsk.trans hsl
                have h80 := hN80
                have h87 := hN87
                have h88 := hN88
                have h93 := hN93
                change ab_W _ _ _ G47 97 [some (vR 80), some (vz wh), some (vz nt), some (vz bg)] [] _
                refine zz_iconst d_MO_readClass_97 ?_
                refine ab_istore_n d_MO_readClass_98 (Nat.le_of_ble_eq_true rfl) (Nat.le_of_ble_eq_true rfl) rfl ?_
                change ab_W _ _ _ G47 99 [some (vR 80), some (vz wh), some (vz nt), some (vz 1)] [] _
                refine ab_goto (tgt := 55) d_MO_readClass_99 (by decide) ?_
                exact ih (m_at := a248) (m_fault := f249) (m_place := p250) (m_value := v251) (m_isNot := nt252) (m_wide := w253) (m_gathered := g254) (LO := LO255) (HI := HI256) (MK := MK257) (P := P) (bg := 1) (mq := mq) (ms := 0) h80 h84 h87 h88 h93 h81 h82 (by omega) (fun h => absurd h (by omega)) hq59 (fun h => absurd h (by omega)) (fun h => absurd h (by omega)) (clH_f (clH_t jh (by omega)) (fun z => by have z1 := z.1; have z2 := z.2; omega) (by omega) (hq60 wh)) (by omega) (by omega) hfr hlen hsl (by omega) hk0
              · cases hv
                have h84 := hfk.get h84 (by decide)
                have h81 := hfk.get h81 (by decide)
                have h82 := hfk.get h82 (by decide)
                have hfr := hfr.tr hfk (by decide)
                have hlen := hlk.trans hlen
                have hsl := hsk.trans hsl
                have h80 := hN80
                have h87 := hN87
                have h88 := hN88
                have h93 := hN93
                change ab_W _ _ _ G47 97 [some (vR 80), some (vz wh), some (vz nt), some (vz bg)] [] _
                refine zz_iconst d_MO_readClass_97 ?_
                refine ab_istore_n d_MO_readClass_98 (Nat.le_of_ble_eq_true rfl) (Nat.le_of_ble_eq_true rfl) rfl ?_
                change ab_W _ _ _ G47 99 [some (vR 80), some (vz wh), some (vz nt), some (vz 1)] [] _
                refine ab_goto (tgt := 55) d_MO_readClass_99 (by decide) ?_
                exact ih (m_at := a261) (m_fault := m_fault) (m_place := m_place) (m_value := v262) (m_isNot := nt263) (m_wide := w264) (m_gathered := g265) (LO := LO267) (HI := HI268) (MK := MK269) (P := P270) (bg := 1) (mq := m266) (ms := (m_taped + 2 - a261)) h80 h84 h87 h88 h93 h81 h82 (by omega) (fun _ => by omega) hq72 (fun _ => hq73) (fun _ => hq74) (clH_s (by omega) (clH_t jh (by omega)) (fun z => by have z1 := z.1; have z2 := z.2; omega) hq75) (by omega) (by omega) hfr hlen hsl (by omega) hk0
            · cases hv
              rw [hGe]
              change ab_W _ _ _ G 81 [some (vR 80), some (vz wh), some (vz nt), some (vz bg)] [vz (-1)] _
              exfalso; omega
      · cases hv
        rw [hGe]
        change ab_W _ _ _ G 67 [some (vR 80), some (vz wh), some (vz nt), some (vz bg)] [vz (-1)] _
        refine zz_bipush d_MO_readClass_67 (by decide) ?_
        refine zz_icmp_ne (tgt := 76) d_MO_readClass_69 (by decide) (by decide) (by decide) (fun c76 => ?_) (fun c76 => absurd c76 (by decide))
        refine ab_aload_n d_MO_readClass_76 rfl ?_
        refine zz_iconst d_MO_readClass_77 ?_
        refine ab_callV (d' := d - 1) (as := [vz 0]) (st := []) (r := _) (z_MO_here (o := o) (m_thrown := m_thrown) (m_taped := m_taped) (m_length := m_length) (m_out := m_out) (m_wide := m_wide) (m_gathered := m_gathered) (m_sets := m_sets) (m_ranges := m_ranges) (m_nodes := m_nodes) (m_at := m_at) (m_flags := m_flags) (m_fault := m_fault) (m_place := m_place) (m_numbered := m_numbered) (m_depth := m_depth) (m_value := m_value) (m_isNot := m_isNot) (m_least0 := m_least0) (m_most0 := m_most0) (m_slot := m_slot) (m_work := m_work) (m_got := m_got) (m_rowMany := m_rowMany) (m_charAt := m_charAt) (m_charWide := m_charWide) (m_trail := m_trail) (m_isMatch := m_isMatch) (m_matchGroups := m_matchGroups) (m_allFrom := m_allFrom) (m_allBefore := m_allBefore) (m_founds := m_founds) (m_pieces := m_pieces) (m_writtenMany := m_writtenMany) (m_templateWide := m_templateWide) (m_tooMuch := m_tooMuch) (A_tape := A_tape) (k := 0) (qh := m_at) h80 h84 (by omega) (by omega) jtp (by omega) (by omega)) (fun oc G2 h => by rcases h with ⟨h, _⟩ | ⟨h, _⟩ <;> exact ⟨_, h⟩) (by omega) m_MO_here ml_MO_297 im_MO_here se_MO_here c_MO h80.2.2 (Nat.le_of_ble_eq_true rfl) d_MO_readClass_78 rfl ?_
        intro v G77 hq
        rcases hq with ⟨hv, hGe, hq78⟩ | ⟨hv, hGe, hq79, hq80⟩
        · cases hv
          rw [hGe]
          change ab_W _ _ _ G 81 [some (vR 80), some (vz wh), some (vz nt), some (vz bg)] [vz (tpk A_tape m_taped m_at)] _
          exfalso; omega
        · cases hv
          rw [hGe]
          change ab_W _ _ _ G 81 [some (vR 80), some (vz wh), some (vz nt), some (vz bg)] [vz (-1)] _
          refine zz_if_ge (tgt := 93) d_MO_readClass_81 (by decide) (by decide) (fun c81 => absurd c81 (by decide)) (fun c81 => ?_)
          refine ab_aload_n d_MO_readClass_84 rfl ?_
          refine zz_iconst d_MO_readClass_85 ?_
          refine ab_iload_n d_MO_readClass_86 rfl ?_
          refine ab_callV (d' := d - 1) (as := [vz 4, vz wh]) (st := []) (r := _) (z_MO_wrong (o := o) (m_thrown := m_thrown) (m_taped := m_taped) (m_length := m_length) (m_out := m_out) (m_wide := m_wide) (m_gathered := m_gathered) (m_sets := m_sets) (m_ranges := m_ranges) (m_nodes := m_nodes) (m_at := m_at) (m_flags := m_flags) (m_fault := m_fault) (m_place := m_place) (m_numbered := m_numbered) (m_depth := m_depth) (m_value := m_value) (m_isNot := m_isNot) (m_least0 := m_least0) (m_most0 := m_most0) (m_slot := m_slot) (m_work := m_work) (m_got := m_got) (m_rowMany := m_rowMany) (m_charAt := m_charAt) (m_charWide := m_charWide) (m_trail := m_trail) (m_isMatch := m_isMatch) (m_matchGroups := m_matchGroups) (m_allFrom := m_allFrom) (m_allBefore := m_allBefore) (m_founds := m_founds) (m_pieces := m_pieces) (m_writtenMany := m_writtenMany) (m_templateWide := m_templateWide) (m_tooMuch := m_tooMuch) (x := 4) (y := wh) h80 (by omega) (by omega)) (fun oc G2 h => by rcases h with ⟨h, _⟩ | ⟨h, _⟩ <;> exact ⟨_, h⟩) (by omega) m_MO_wrong ml_MO_304 im_MO_wrong se_MO_wrong c_MO h80.2.2 (Nat.le_of_ble_eq_true rfl) d_MO_readClass_87 rfl ?_
          intro v G82 hq
          rcases hq with ⟨hv, hfk, hlk, hsk, hN80, hq83⟩ | ⟨hv, hGe, hq84⟩
          · cases hv
            have h84 := hfk.get h84 (by decide)
            have h87 := hfk.get h87 (by decide)
            have h88 := hfk.get h88 (by decide)
            have h93 := hfk.get h93 (by decide)
            have h81 := hfk.get h81 (by decide)
            have h82 := hfk.get h82 (by decide)
            have hfr := hfr.tr hfk (by decide)
            have hlen := hlk.trans hlen
            have hsl := hsk.trans hsl
            have h80 := hN80
            change ab_W _ _ _ G82 90 [some (vR 80), some (vz wh), some (vz nt), some (vz bg)] [] _
            refine ab_goto (tgt := 97) d_MO_readClass_90 (by decide) ?_
            refine zz_iconst d_MO_readClass_97 ?_
            refine ab_istore_n d_MO_readClass_98 (Nat.le_of_ble_eq_true rfl) (Nat.le_of_ble_eq_true rfl) rfl ?_
            change ab_W _ _ _ G82 99 [some (vR 80), some (vz wh), some (vz nt), some (vz 1)] [] _
            refine ab_goto (tgt := 55) d_MO_readClass_99 (by decide) ?_
            exact ih (m_at := m_at) (m_fault := 4) (m_place := wh) (m_value := m_value) (m_isNot := m_isNot) (m_wide := m_wide) (m_gathered := m_gathered) (LO := LO) (HI := HI) (MK := MK) (P := P) (bg := 1) (mq := mq) (ms := 0) h80 h84 h87 h88 h93 h81 h82 (by omega) (fun h => absurd h (by omega)) jmk (fun h => absurd h (by omega)) (fun h => absurd h (by omega)) (clH_f (clH_t jh (by omega)) (fun z => by have z1 := z.1; have z2 := z.2; omega) (by omega) (Or.inr (Or.inl ⟨fun z => by have z1 := z.1; omega, Or.inl ⟨by omega, by omega, by omega⟩⟩))) (by omega) (by omega) hfr hlen hsl (by omega) hk0
          · cases hv
            rw [hGe]
            change ab_W _ _ _ G 90 [some (vR 80), some (vz wh), some (vz nt), some (vz bg)] [] _
            exfalso; omega
set_option maxRecDepth 100000 in
set_option maxHeartbeats 4000000 in
theorem z_MO_readClass {X : ab_X} {d : Nat} {o : Nat → Nat} {G : ab_G} {m_thrown : Int} {m_taped : Int} {m_length : Int} {m_out : Int} {m_wide : Int} {m_gathered : Int} {m_sets : Int} {m_ranges : Int} {m_nodes : Int} {m_at : Int} {m_flags : Int} {m_fault : Int} {m_place : Int} {m_numbered : Int} {m_depth : Int} {m_value : Int} {m_isNot : Int} {m_least0 : Int} {m_most0 : Int} {m_slot : Int} {m_work : Int} {m_got : Int} {m_rowMany : Int} {m_charAt : Int} {m_charWide : Int} {m_trail : Int} {m_isMatch : Int} {m_matchGroups : Int} {m_allFrom : Int} {m_allBefore : Int} {m_founds : Int} {m_pieces : Int} {m_writtenMany : Int} {m_templateWide : Int} {m_tooMuch : Int} {A_tape : Int → Int} {LO : Int → Int} {HI : Int → Int} {MK : Int → Int} {RL : Int → Int} {RH : Int → Int} {NS : Int → Int} {NM : Int → Int} {rp : Int} {ls : Int} {SV : Int → Int → Prop} {ro : Sn} {vv : Sn} {a1_ : Int} {b1_ : Int} {c1_ : Int} {d1_ : Int} {e1_ : Int} {t1_ : List Fr} {ao1_ : Option Sn} {ro1_ : Sn} {ts1_ : List Fs} (h80 : cc o G 80 280 (ab_ob 12 (mof m_thrown m_taped m_length m_out m_wide m_gathered m_sets m_ranges m_nodes m_at m_flags m_fault m_place m_numbered m_depth m_value m_isNot m_least0 m_most0 m_slot m_work m_got m_rowMany m_charAt m_charWide m_trail m_isMatch m_matchGroups m_allFrom m_allBefore m_founds m_pieces m_writtenMany m_templateWide m_tooMuch))) (h84 : cc o G 84 284 (za 2000 A_tape)) (h87 : cc o G 87 287 (za 9000 LO)) (h88 : cc o G 88 288 (za 9000 HI)) (h93 : cc o G 93 293 (zb 1200 MK)) (h81 : cc o G 81 281 (za 13 tbA)) (h82 : cc o G 82 282 (za 66 tbT)) (h91 : cc o G 91 291 (za 24000 RL)) (h92 : cc o G 92 292 (za 24000 RH)) (h110 : cc o G 110 310 (za 120 NS)) (h111 : cc o G 111 311 (za 10 NM)) (ptrI_0 : trI o G 0 m_nodes m_sets (m_depth + 1) (-1) 0 0 ((a1_, b1_, c1_, d1_, e1_) :: t1_) rp ls 0 SV ((ao1_, ro1_) :: ts1_) ro vv mnI RL RH m_ranges 0 0) (n18 : ab_n0 = 18) (cta : 0 ≤ m_taped ∧ m_taped ≤ 2000) (jtp : rgs A_tape 2000 0 255) (jmk : rgs MK 1200 0 1) (jrl : rgs RL 24000 0 1114111) (jrh : rgs RH 24000 0 1114111) (jns : rgs NS 120 0 255) (jnm : rgs NM 10 0 12) (cf : m_fault = 0) (cat : 0 ≤ m_at ∧ m_at < m_taped) (cpo : 0 ≤ m_nodes ∧ m_nodes + 2 * m_depth + 0 ≤ 2 * m_at ∧ 0 ≤ m_sets ∧ m_sets + 0 ≤ m_at ∧ 0 ≤ m_ranges ∧ m_ranges + 0 ≤ 12 * m_at ∧ 0 ≤ m_depth ∧ m_depth ≤ 30 ∧ 0 ≤ m_numbered ∧ m_numbered ≤ 9 ∧ -2147483648 ≤ m_flags ∧ m_flags ≤ 2147483647 ∧ -2147483648 ≤ m_value ∧ m_value ≤ 2147483647) (cfl : 0 ≤ m_flags ∧ m_flags ≤ 15) (hch : tpk A_tape m_taped m_at = 91) (hd : 7 ≤ d) : ab_F X d y_MO_readClass (.code y_MO_readClass b_MO_readClass 4 none) [vR 80] G (fun oc G2 => (∃ a2 : Int, ∃ g2 : Int, ∃ s2 : Int, ∃ r2 : Int, ∃ n2 : Int, ∃ v2 : Int, ∃ nt2 : Int, ∃ w2 : Int, ∃ f2 : Int, ∃ p2 : Int, ∃ z9 : Int, ∃ LO2 : Int → Int, ∃ HI2 : Int → Int, ∃ MK2 : Int → Int, ∃ RL2 : Int → Int, ∃ RH2 : Int → Int, ∃ SV2 : Int → Int → Prop, ∃ v9 : Sn, oc = .returned none ∧ fx o o [280, 287, 288, 293, 291, 292, 310, 311, 294, 295, 296, 297, 298, 299, 300, 301, 290, 289, 305, 306, 307, 308, 309, 302, 303, 304] G G2 ∧ G2.length = G.length ∧ ab_slots G2 = ab_slots G ∧ cc o G2 80 280 (ab_ob 12 (mof m_thrown m_taped m_length m_out w2 g2 s2 r2 n2 a2 m_flags f2 p2 m_numbered m_depth v2 nt2 m_least0 m_most0 m_slot m_work m_got m_rowMany m_charAt m_charWide m_trail m_isMatch m_matchGroups m_allFrom m_allBefore m_founds m_pieces m_writtenMany m_templateWide m_tooMuch)) ∧ cc o G2 87 287 (za 9000 LO2) ∧ cc o G2 88 288 (za 9000 HI2) ∧ cc o G2 93 293 (zb 1200 MK2) ∧ cc o G2 91 291 (za 24000 RL2) ∧ cc o G2 92 292 (za 24000 RH2) ∧ cc o G2 110 310 (za 120 NS) ∧ cc o G2 111 311 (za 10 NM) ∧ trI o G2 0 n2 s2 (m_depth + 1) (-1) 0 0 ((a1_, b1_, c1_, d1_, (e1_ + z9)) :: t1_) 1 z9 0 SV2 ((ao1_, (mnC ro1_ v9)) :: ts1_) ro1_ v9 mnI RL2 RH2 r2 0 0 ∧ (f2 = 0 ∧ p2 = m_place ∧ m_at < a2 ∧ 0 ≤ n2 ∧ n2 + 2 * m_depth ≤ 2 * a2 ∧ 0 ≤ s2 ∧ s2 ≤ a2 ∧ 0 ≤ r2 ∧ r2 ≤ 12 * a2 ∧ a2 ≤ m_taped ∧ -2147483648 ≤ v2 ∧ v2 ≤ 2147483647) ∧ (rgs MK2 1200 0 1) ∧ (rgs RL2 24000 0 1114111) ∧ (rgs RH2 24000 0 1114111) ∧ (lfR A_tape m_taped m_flags m_at z9 a2) ∧ (lfM A_tape m_taped m_flags m_at v9 a2)) ∨ (∃ a2 : Int, ∃ f2 : Int, ∃ p2 : Int, ∃ g2 : Int, ∃ v2 : Int, ∃ nt2 : Int, ∃ w2 : Int, ∃ LO2 : Int → Int, ∃ HI2 : Int → Int, ∃ MK2 : Int → Int, oc = .returned none ∧ fx o o [280, 287, 288, 293, 291, 292, 310, 311, 294, 295, 296, 297, 298, 299, 300, 301, 290, 289, 305, 306, 307, 308, 309, 302, 303, 304] G G2 ∧ G2.length = G.length ∧ ab_slots G2 = ab_slots G ∧ cc o G2 80 280 (ab_ob 12 (mof m_thrown m_taped m_length m_out w2 g2 m_sets m_ranges m_nodes a2 m_flags f2 p2 m_numbered m_depth v2 nt2 m_least0 m_most0 m_slot m_work m_got m_rowMany m_charAt m_charWide m_trail m_isMatch m_matchGroups m_allFrom m_allBefore m_founds m_pieces m_writtenMany m_templateWide m_tooMuch)) ∧ cc o G2 87 287 (za 9000 LO2) ∧ cc o G2 88 288 (za 9000 HI2) ∧ cc o G2 93 293 (zb 1200 MK2) ∧ cc o G2 91 291 (za 24000 RL) ∧ cc o G2 92 292 (za 24000 RH) ∧ cc o G2 110 310 (za 120 NS) ∧ cc o G2 111 311 (za 10 NM) ∧ trI o G2 0 m_nodes m_sets (m_depth + 1) (-1) 0 0 ((a1_, b1_, c1_, d1_, e1_) :: t1_) rp ls 0 SV ((ao1_, ro1_) :: ts1_) ro vv mnI RL RH m_ranges 0 0 ∧ (1 ≤ f2 ∧ f2 ≤ 14 ∧ 0 ≤ a2 ∧ a2 ≤ 4000 ∧ -2147483648 ≤ v2 ∧ v2 ≤ 2147483647) ∧ (rgs MK2 1200 0 1) ∧ (lfF A_tape m_taped m_flags m_at f2 p2))) := by
  refine ab_F_of (by decide +kernel) (Nat.le_of_ble_eq_true rfl) ?_
  obtain ⟨Q, hQ⟩ : ∃ z : Outcome → ab_G → Prop, z = (fun oc G2 => (∃ a2 : Int, ∃ g2 : Int, ∃ s2 : Int, ∃ r2 : Int, ∃ n2 : Int, ∃ v2 : Int, ∃ nt2 : Int, ∃ w2 : Int, ∃ f2 : Int, ∃ p2 : Int, ∃ z9 : Int, ∃ LO2 : Int → Int, ∃ HI2 : Int → Int, ∃ MK2 : Int → Int, ∃ RL2 : Int → Int, ∃ RH2 : Int → Int, ∃ SV2 : Int → Int → Prop, ∃ v9 : Sn, oc = .returned none ∧ fx o o [280, 287, 288, 293, 291, 292, 310, 311, 294, 295, 296, 297, 298, 299, 300, 301, 290, 289, 305, 306, 307, 308, 309, 302, 303, 304] G G2 ∧ G2.length = G.length ∧ ab_slots G2 = ab_slots G ∧ cc o G2 80 280 (ab_ob 12 (mof m_thrown m_taped m_length m_out w2 g2 s2 r2 n2 a2 m_flags f2 p2 m_numbered m_depth v2 nt2 m_least0 m_most0 m_slot m_work m_got m_rowMany m_charAt m_charWide m_trail m_isMatch m_matchGroups m_allFrom m_allBefore m_founds m_pieces m_writtenMany m_templateWide m_tooMuch)) ∧ cc o G2 87 287 (za 9000 LO2) ∧ cc o G2 88 288 (za 9000 HI2) ∧ cc o G2 93 293 (zb 1200 MK2) ∧ cc o G2 91 291 (za 24000 RL2) ∧ cc o G2 92 292 (za 24000 RH2) ∧ cc o G2 110 310 (za 120 NS) ∧ cc o G2 111 311 (za 10 NM) ∧ trI o G2 0 n2 s2 (m_depth + 1) (-1) 0 0 ((a1_, b1_, c1_, d1_, (e1_ + z9)) :: t1_) 1 z9 0 SV2 ((ao1_, (mnC ro1_ v9)) :: ts1_) ro1_ v9 mnI RL2 RH2 r2 0 0 ∧ (f2 = 0 ∧ p2 = m_place ∧ m_at < a2 ∧ 0 ≤ n2 ∧ n2 + 2 * m_depth ≤ 2 * a2 ∧ 0 ≤ s2 ∧ s2 ≤ a2 ∧ 0 ≤ r2 ∧ r2 ≤ 12 * a2 ∧ a2 ≤ m_taped ∧ -2147483648 ≤ v2 ∧ v2 ≤ 2147483647) ∧ (rgs MK2 1200 0 1) ∧ (rgs RL2 24000 0 1114111) ∧ (rgs RH2 24000 0 1114111) ∧ (lfR A_tape m_taped m_flags m_at z9 a2) ∧ (lfM A_tape m_taped m_flags m_at v9 a2)) ∨ (∃ a2 : Int, ∃ f2 : Int, ∃ p2 : Int, ∃ g2 : Int, ∃ v2 : Int, ∃ nt2 : Int, ∃ w2 : Int, ∃ LO2 : Int → Int, ∃ HI2 : Int → Int, ∃ MK2 : Int → Int, oc = .returned none ∧ fx o o [280, 287, 288, 293, 291, 292, 310, 311, 294, 295, 296, 297, 298, 299, 300, 301, 290, 289, 305, 306, 307, 308, 309, 302, 303, 304] G G2 ∧ G2.length = G.length ∧ ab_slots G2 = ab_slots G ∧ cc o G2 80 280 (ab_ob 12 (mof m_thrown m_taped m_length m_out w2 g2 m_sets m_ranges m_nodes a2 m_flags f2 p2 m_numbered m_depth v2 nt2 m_least0 m_most0 m_slot m_work m_got m_rowMany m_charAt m_charWide m_trail m_isMatch m_matchGroups m_allFrom m_allBefore m_founds m_pieces m_writtenMany m_templateWide m_tooMuch)) ∧ cc o G2 87 287 (za 9000 LO2) ∧ cc o G2 88 288 (za 9000 HI2) ∧ cc o G2 93 293 (zb 1200 MK2) ∧ cc o G2 91 291 (za 24000 RL) ∧ cc o G2 92 292 (za 24000 RH) ∧ cc o G2 110 310 (za 120 NS) ∧ cc o G2 111 311 (za 10 NM) ∧ trI o G2 0 m_nodes m_sets (m_depth + 1) (-1) 0 0 ((a1_, b1_, c1_, d1_, e1_) :: t1_) rp ls 0 SV ((ao1_, ro1_) :: ts1_) ro vv mnI RL RH m_ranges 0 0 ∧ (1 ≤ f2 ∧ f2 ≤ 14 ∧ 0 ≤ a2 ∧ a2 ≤ 4000 ∧ -2147483648 ≤ v2 ∧ v2 ≤ 2147483647) ∧ (rgs MK2 1200 0 1) ∧ (lfF A_tape m_taped m_flags m_at f2 p2))) := ⟨_, rfl⟩
  rw [← hQ]
  change ab_W X (ab_pl y_MO_readClass b_MO_readClass 4 none) d G 0 [some (vR 80), none, none, none] [] Q
  have hfr : fx o o [280, 287, 288, 293, 291, 292, 310, 311, 294, 295, 296, 297, 298, 299, 300, 301, 290, 289, 305, 306, 307, 308, 309, 302, 303, 304] G G := fx.rf
  have hlen : G.length = G.length := rfl
  have hsl : ab_slots G = ab_slots G := rfl
  refine ab_aload_n d_MO_readClass_0 rfl ?_
  refine ab_getf (fs := mof m_thrown m_taped m_length m_out m_wide m_gathered m_sets m_ranges m_nodes m_at m_flags m_fault m_place m_numbered m_depth m_value m_isNot m_least0 m_most0 m_slot m_work m_got m_rowMany m_charAt m_charWide m_trail m_isMatch m_matchGroups m_allFrom m_allBefore m_founds m_pieces m_writtenMany m_templateWide m_tooMuch) f_MO_279 d_MO_readClass_1 h80.2.2 rfl ?_
  refine ab_istore_n d_MO_readClass_4 (Nat.le_of_ble_eq_true rfl) (Nat.le_of_ble_eq_true rfl) rfl ?_
  change ab_W _ _ _ G 5 [some (vR 80), some (vz m_at), none, none] [] _
  refine ab_aload_n d_MO_readClass_5 rfl ?_
  refine ab_dup d_MO_readClass_6 rfl ?_
  refine ab_getf (fs := mof m_thrown m_taped m_length m_out m_wide m_gathered m_sets m_ranges m_nodes m_at m_flags m_fault m_place m_numbered m_depth m_value m_isNot m_least0 m_most0 m_slot m_work m_got m_rowMany m_charAt m_charWide m_trail m_isMatch m_matchGroups m_allFrom m_allBefore m_founds m_pieces m_writtenMany m_templateWide m_tooMuch) f_MO_279 d_MO_readClass_7 h80.2.2 rfl ?_
  refine zz_iconst d_MO_readClass_10 ?_
  refine zz_iadd d_MO_readClass_11 ?_
  refine ab_putf (fs := mof m_thrown m_taped m_length m_out m_wide m_gathered m_sets m_ranges m_nodes m_at m_flags m_fault m_place m_numbered m_depth m_value m_isNot m_least0 m_most0 m_slot m_work m_got m_rowMany m_charAt m_charWide m_trail m_isMatch m_matchGroups m_allFrom m_allBefore m_founds m_pieces m_writtenMany m_templateWide m_tooMuch) f_MO_279 (Or.inl rfl) d_MO_readClass_12 h80.2.2 (Nat.le_of_ble_eq_true rfl) (fun _ => ⟨rfl, rfl⟩) (h80.2.1 (by decide)) ?_
  obtain ⟨G1, eG1⟩ : ∃ z : ab_G, z = List.set G 80 (ab_ob 12 (mof m_thrown m_taped m_length m_out m_wide m_gathered m_sets m_ranges m_nodes (m_at + 1) m_flags m_fault m_place m_numbered m_depth m_value m_isNot m_least0 m_most0 m_slot m_work m_got m_rowMany m_charAt m_charWide m_trail m_isMatch m_matchGroups m_allFrom m_allBefore m_founds m_pieces m_writtenMany m_templateWide m_tooMuch)) := ⟨_, rfl⟩
  have h84 := h84.keep h80 eG1 (by decide)
  have h87 := h87.keep h80 eG1 (by decide)
  have h88 := h88.keep h80 eG1 (by decide)
  have h93 := h93.keep h80 eG1 (by decide)
  have h81 := h81.keep h80 eG1 (by decide)
  have h82 := h82.keep h80 eG1 (by decide)
  have h91 := h91.keep h80 eG1 (by decide)
  have h92 := h92.keep h80 eG1 (by decide)
  have h110 := h110.keep h80 eG1 (by decide)
  have h111 := h111.keep h80 eG1 (by decide)
  have hst := (fx.rf (o := o) (S := [280]) (G := G)).wr h80 eG1 (List.mem_singleton.mpr rfl)
  have ptrI_0 := trI.fr hst ptrI_0 (by decide) (by decide) (by decide) (by decide) (by decide) (by decide) (by decide) (by decide) (by decide) (by decide) (by decide) (by decide) (by decide) (by decide) (by decide) (by decide) (by decide) (by decide)
  have hlen := (z_len eG1).trans hlen
  have hsl := (z_sl h80 eG1 rfl).trans hsl
  have hfr := hfr.wr h80 eG1 (by decide)
  have h80 := h80.kept eG1
  change ab_W _ _ _ (List.set G 80 (ab_ob 12 (mof m_thrown m_taped m_length m_out m_wide m_gathered m_sets m_ranges m_nodes (m_at + 1) m_flags m_fault m_place m_numbered m_depth m_value m_isNot m_least0 m_most0 m_slot m_work m_got m_rowMany m_charAt m_charWide m_trail m_isMatch m_matchGroups m_allFrom m_allBefore m_founds m_pieces m_writtenMany m_templateWide m_tooMuch))) 15 [some (vR 80), some (vz m_at), none, none] [] _
  rw [← eG1]
  refine ab_aload_n d_MO_readClass_15 rfl ?_
  refine zz_iconst d_MO_readClass_16 ?_
  refine ab_callV (d' := d - 1) (as := [vz 0]) (st := []) (r := _) (z_MO_here (o := o) (m_thrown := m_thrown) (m_taped := m_taped) (m_length := m_length) (m_out := m_out) (m_wide := m_wide) (m_gathered := m_gathered) (m_sets := m_sets) (m_ranges := m_ranges) (m_nodes := m_nodes) (m_at := (m_at + 1)) (m_flags := m_flags) (m_fault := m_fault) (m_place := m_place) (m_numbered := m_numbered) (m_depth := m_depth) (m_value := m_value) (m_isNot := m_isNot) (m_least0 := m_least0) (m_most0 := m_most0) (m_slot := m_slot) (m_work := m_work) (m_got := m_got) (m_rowMany := m_rowMany) (m_charAt := m_charAt) (m_charWide := m_charWide) (m_trail := m_trail) (m_isMatch := m_isMatch) (m_matchGroups := m_matchGroups) (m_allFrom := m_allFrom) (m_allBefore := m_allBefore) (m_founds := m_founds) (m_pieces := m_pieces) (m_writtenMany := m_writtenMany) (m_templateWide := m_templateWide) (m_tooMuch := m_tooMuch) (A_tape := A_tape) (k := 0) (qh := (m_at + 1)) h80 h84 (by omega) (by omega) jtp (by omega) (by omega)) (fun oc G2 h => by rcases h with ⟨h, _⟩ | ⟨h, _⟩ <;> exact ⟨_, h⟩) (by omega) m_MO_here ml_MO_297 im_MO_here se_MO_here c_MO h80.2.2 (Nat.le_of_ble_eq_true rfl) d_MO_readClass_17 rfl ?_
  intro v G2 hq
  rcases hq with ⟨hv, hGe, hq3⟩ | ⟨hv, hGe, hq4, hq5⟩
  · cases hv
    rw [hGe]
    change ab_W _ _ _ G1 20 [some (vR 80), some (vz m_at), none, none] [vz (tpk A_tape m_taped (m_at + 1))] _
    refine zz_bipush d_MO_readClass_20 (by decide) ?_
    refine zz_icmp_ne (tgt := 29) d_MO_readClass_22 (by decide) (by omega) (by decide) (fun c6 => ?_) (fun c6 => ?_)
    · refine zz_iconst d_MO_readClass_29 ?_
      refine ab_istore_n d_MO_readClass_30 (Nat.le_of_ble_eq_true rfl) (Nat.le_of_ble_eq_true rfl) rfl ?_
      change ab_W _ _ _ G1 31 [some (vR 80), some (vz m_at), some (vz 0), none] [] _
      refine ab_aload_n d_MO_readClass_31 rfl ?_
      refine ab_dup d_MO_readClass_32 rfl ?_
      refine ab_getf (fs := mof m_thrown m_taped m_length m_out m_wide m_gathered m_sets m_ranges m_nodes (m_at + 1) m_flags m_fault m_place m_numbered m_depth m_value m_isNot m_least0 m_most0 m_slot m_work m_got m_rowMany m_charAt m_charWide m_trail m_isMatch m_matchGroups m_allFrom m_allBefore m_founds m_pieces m_writtenMany m_templateWide m_tooMuch) f_MO_279 d_MO_readClass_33 h80.2.2 rfl ?_
      refine ab_iload_n d_MO_readClass_36 rfl ?_
      refine zz_if_eq (tgt := 44) d_MO_readClass_37 (by decide) (by decide) (fun c7 => ?_) (fun c7 => absurd c7 (by decide))
      refine zz_iconst d_MO_readClass_44 ?_
      refine zz_iadd d_MO_readClass_45 ?_
      refine ab_putf (fs := mof m_thrown m_taped m_length m_out m_wide m_gathered m_sets m_ranges m_nodes (m_at + 1) m_flags m_fault m_place m_numbered m_depth m_value m_isNot m_least0 m_most0 m_slot m_work m_got m_rowMany m_charAt m_charWide m_trail m_isMatch m_matchGroups m_allFrom m_allBefore m_founds m_pieces m_writtenMany m_templateWide m_tooMuch) f_MO_279 (Or.inl rfl) d_MO_readClass_46 h80.2.2 (Nat.le_of_ble_eq_true rfl) (fun _ => ⟨rfl, rfl⟩) (h80.2.1 (by decide)) ?_
      obtain ⟨G8, eG8⟩ : ∃ z : ab_G, z = List.set G1 80 (ab_ob 12 (mof m_thrown m_taped m_length m_out m_wide m_gathered m_sets m_ranges m_nodes ((m_at + 1) + 0) m_flags m_fault m_place m_numbered m_depth m_value m_isNot m_least0 m_most0 m_slot m_work m_got m_rowMany m_charAt m_charWide m_trail m_isMatch m_matchGroups m_allFrom m_allBefore m_founds m_pieces m_writtenMany m_templateWide m_tooMuch)) := ⟨_, rfl⟩
      have h84 := h84.keep h80 eG8 (by decide)
      have h87 := h87.keep h80 eG8 (by decide)
      have h88 := h88.keep h80 eG8 (by decide)
      have h93 := h93.keep h80 eG8 (by decide)
      have h81 := h81.keep h80 eG8 (by decide)
      have h82 := h82.keep h80 eG8 (by decide)
      have h91 := h91.keep h80 eG8 (by decide)
      have h92 := h92.keep h80 eG8 (by decide)
      have h110 := h110.keep h80 eG8 (by decide)
      have h111 := h111.keep h80 eG8 (by decide)
      have hst := (fx.rf (o := o) (S := [280]) (G := G1)).wr h80 eG8 (List.mem_singleton.mpr rfl)
      have ptrI_0 := trI.fr hst ptrI_0 (by decide) (by decide) (by decide) (by decide) (by decide) (by decide) (by decide) (by decide) (by decide) (by decide) (by decide) (by decide) (by decide) (by decide) (by decide) (by decide) (by decide) (by decide)
      have hlen := (z_len eG8).trans hlen
      have hsl := (z_sl h80 eG8 rfl).trans hsl
      have hfr := hfr.wr h80 eG8 (by decide)
      have h80 := h80.kept eG8
      change ab_W _ _ _ (List.set G1 80 (ab_ob 12 (mof m_thrown m_taped m_length m_out m_wide m_gathered m_sets m_ranges m_nodes ((m_at + 1) + 0) m_flags m_fault m_place m_numbered m_depth m_value m_isNot m_least0 m_most0 m_slot m_work m_got m_rowMany m_charAt m_charWide m_trail m_isMatch m_matchGroups m_allFrom m_allBefore m_founds m_pieces m_writtenMany m_templateWide m_tooMuch))) 49 [some (vR 80), some (vz m_at), some (vz 0), none] [] _
      rw [← eG8]
      refine ab_aload_n d_MO_readClass_49 rfl ?_
      refine ab_callV (d' := d - 1) (as := []) (st := []) (r := _) (z_MO_begin (o := o) (m_thrown := m_thrown) (m_taped := m_taped) (m_length := m_length) (m_out := m_out) (m_wide := m_wide) (m_gathered := m_gathered) (m_sets := m_sets) (m_ranges := m_ranges) (m_nodes := m_nodes) (m_at := ((m_at + 1) + 0)) (m_flags := m_flags) (m_fault := m_fault) (m_place := m_place) (m_numbered := m_numbered) (m_depth := m_depth) (m_value := m_value) (m_isNot := m_isNot) (m_least0 := m_least0) (m_most0 := m_most0) (m_slot := m_slot) (m_work := m_work) (m_got := m_got) (m_rowMany := m_rowMany) (m_charAt := m_charAt) (m_charWide := m_charWide) (m_trail := m_trail) (m_isMatch := m_isMatch) (m_matchGroups := m_matchGroups) (m_allFrom := m_allFrom) (m_allBefore := m_allBefore) (m_founds := m_founds) (m_pieces := m_pieces) (m_writtenMany := m_writtenMany) (m_templateWide := m_templateWide) (m_tooMuch := m_tooMuch) (LO := LO) (HI := HI) (MK := MK) h80 h93 h87 h88 (by omega) jmk (by omega)) (fun oc G2 h => by rcases h with ⟨_, h, _⟩ <;> exact ⟨_, h⟩) (by omega) m_MO_begin ml_MO_362 im_MO_begin se_MO_begin c_MO h80.2.2 (Nat.le_of_ble_eq_true rfl) d_MO_readClass_50 rfl ?_
      intro v G9 hq
      rcases hq with ⟨MK210, hv, hfk, hlk, hsk, hN80, hN93, hq11, hq12⟩
      cases hv
      have h84 := hfk.get h84 (by decide)
      have h87 := hfk.get h87 (by decide)
      have h88 := hfk.get h88 (by decide)
      have h81 := hfk.get h81 (by decide)
      have h82 := hfk.get h82 (by decide)
      have h91 := hfk.get h91 (by decide)
      have h92 := hfk.get h92 (by decide)
      have h110 := hfk.get h110 (by decide)
      have h111 := hfk.get h111 (by decide)
      have ptrI_0 := trI.fr hfk ptrI_0 (by decide) (by decide) (by decide) (by decide) (by decide) (by decide) (by decide) (by decide) (by decide) (by decide) (by decide) (by decide) (by decide) (by decide) (by decide) (by decide) (by decide) (by decide)
      have hfr := hfr.tr hfk (by decide)
      have hlen := hlk.trans hlen
      have hsl := hsk.trans hsl
      have h80 := hN80
      have h93 := hN93
      change ab_W _ _ _ G9 53 [some (vR 80), some (vz m_at), some (vz 0), none] [] _
      refine zz_iconst d_MO_readClass_53 ?_
      refine ab_istore_n d_MO_readClass_54 (Nat.le_of_ble_eq_true rfl) (Nat.le_of_ble_eq_true rfl) rfl ?_
      change ab_W _ _ _ G9 55 [some (vR 80), some (vz m_at), some (vz 0), some (vz 0)] [] _
      refine y_MO_readClass_55 (m_thrown := m_thrown) (m_taped := m_taped) (m_length := m_length) (m_out := m_out) (m_sets := m_sets) (m_ranges := m_ranges) (m_nodes := m_nodes) (m_flags := m_flags) (m_numbered := m_numbered) (m_depth := m_depth) (m_least0 := m_least0) (m_most0 := m_most0) (m_slot := m_slot) (m_work := m_work) (m_got := m_got) (m_rowMany := m_rowMany) (m_charAt := m_charAt) (m_charWide := m_charWide) (m_trail := m_trail) (m_isMatch := m_isMatch) (m_matchGroups := m_matchGroups) (m_allFrom := m_allFrom) (m_allBefore := m_allBefore) (m_founds := m_founds) (m_pieces := m_pieces) (m_writtenMany := m_writtenMany) (m_templateWide := m_templateWide) (m_tooMuch := m_tooMuch) (A_tape := A_tape) (wh := m_at) (nt := 0) (a0 := ((m_at + 1) + 0)) (pl0 := m_place) (G0 := G9) (m_at := ((m_at + 1) + 0)) (m_fault := m_fault) (m_place := m_place) (m_value := m_value) (m_isNot := m_isNot) (m_wide := m_wide) (m_gathered := 0) (LO := LO) (HI := HI) (MK := MK210) (P := (fun _ => False)) (bg := 0) (mq := 0) (ms := (m_taped + 2 - ((m_at + 1) + 0))) (by omega) (by omega) jtp (by omega) (by omega) (by omega) (Int.toNat (m_taped + 2 - ((m_at + 1) + 0)) + 1) h80 h84 h87 h88 h93 h81 h82 (by omega) (fun _ => by omega) hq11 (fun _ => hq12) (fun _ => lfc_0 (fun _ h => h)) (clH_0 (by omega) rfl (fun _ h => h)) (by omega) (by omega) fx.rf rfl rfl (by omega) (fun G13 a214 f215 p216 v217 nt218 w219 g220 m221 LO222 HI223 MK224 P225 hN80 hN87 hN88 hN93 hq26 hq27 hq28 hq29 hq30 hq31 hq32 hq33 hfk hlk hsk => ?_)
      · have h84 := hfk.get h84 (by decide)
        have h81 := hfk.get h81 (by decide)
        have h82 := hfk.get h82 (by decide)
        have h91 := hfk.get h91 (by decide)
        have h92 := hfk.get h92 (by decide)
        have h110 := hfk.get h110 (by decide)
        have h111 := hfk.get h111 (by decide)
        have ptrI_0 := trI.fr hfk ptrI_0 (by decide) (by decide) (by decide) (by decide) (by decide) (by decide) (by decide) (by decide) (by decide) (by decide) (by decide) (by decide) (by decide) (by decide) (by decide) (by decide) (by decide) (by decide)
        have hfr := hfr.tr hfk (by decide)
        have hlen := hlk.trans hlen
        have hsl := hsk.trans hsl
        have h80 := hN80
        have h87 := hN87
        have h88 := hN88
        have h93 := hN93
        change ab_W _ _ _ G13 102 [some (vR 80), some (vz m_at), some (vz 0), none] [] _
        refine ab_aload_n d_MO_readClass_102 rfl ?_
        refine ab_getf (fs := mof m_thrown m_taped m_length m_out w219 g220 m_sets m_ranges m_nodes a214 m_flags f215 p216 m_numbered m_depth v217 nt218 m_least0 m_most0 m_slot m_work m_got m_rowMany m_charAt m_charWide m_trail m_isMatch m_matchGroups m_allFrom m_allBefore m_founds m_pieces m_writtenMany m_templateWide m_tooMuch) f_MO_273 d_MO_readClass_103 h80.2.2 rfl ?_
        refine zz_if_le (tgt := 110) d_MO_readClass_106 (by decide) (by omega) (fun c34 => ?_) (fun c34 => ?_)
        · have hcj_ := hq27 (by omega)
          have hcc_ := hq29 (by omega)
          have hll_ := hq30 (by omega)
          obtain ⟨K, O, Fi, Be, Le, Mo, Z, LZ, SM, SA, QF, QL, AF, AL, SD, OA, OF, ON, h94, h95, h96, h97, h98, h99, h100, h101, h90, h89, h105, h106, h107, h108, h109, h102, h103, h104, jk, jo, jfi, jbe, jle, jmo, jz, jlz, jsm, jsa, jqf, jql, jaf, jal, jsd, joa, jof, jon, jt, cnd, cre, crs, crz, ck5, ck6, ck7, jss, jsv⟩ := ptrI_0
          refine ab_aload_n d_MO_readClass_110 rfl ?_
          refine ab_dup d_MO_readClass_111 rfl ?_
          refine ab_getf (fs := mof m_thrown m_taped m_length m_out w219 g220 m_sets m_ranges m_nodes a214 m_flags f215 p216 m_numbered m_depth v217 nt218 m_least0 m_most0 m_slot m_work m_got m_rowMany m_charAt m_charWide m_trail m_isMatch m_matchGroups m_allFrom m_allBefore m_founds m_pieces m_writtenMany m_templateWide m_tooMuch) f_MO_279 d_MO_readClass_112 h80.2.2 rfl ?_
          refine zz_iconst d_MO_readClass_115 ?_
          refine zz_iadd d_MO_readClass_116 ?_
          refine ab_putf (fs := mof m_thrown m_taped m_length m_out w219 g220 m_sets m_ranges m_nodes a214 m_flags f215 p216 m_numbered m_depth v217 nt218 m_least0 m_most0 m_slot m_work m_got m_rowMany m_charAt m_charWide m_trail m_isMatch m_matchGroups m_allFrom m_allBefore m_founds m_pieces m_writtenMany m_templateWide m_tooMuch) f_MO_279 (Or.inl rfl) d_MO_readClass_117 h80.2.2 (Nat.le_of_ble_eq_true rfl) (fun _ => ⟨rfl, rfl⟩) (h80.2.1 (by decide)) ?_
          obtain ⟨G35, eG35⟩ : ∃ z : ab_G, z = List.set G13 80 (ab_ob 12 (mof m_thrown m_taped m_length m_out w219 g220 m_sets m_ranges m_nodes (a214 + 1) m_flags f215 p216 m_numbered m_depth v217 nt218 m_least0 m_most0 m_slot m_work m_got m_rowMany m_charAt m_charWide m_trail m_isMatch m_matchGroups m_allFrom m_allBefore m_founds m_pieces m_writtenMany m_templateWide m_tooMuch)) := ⟨_, rfl⟩
          have h84 := h84.keep h80 eG35 (by decide)
          have h87 := h87.keep h80 eG35 (by decide)
          have h88 := h88.keep h80 eG35 (by decide)
          have h93 := h93.keep h80 eG35 (by decide)
          have h81 := h81.keep h80 eG35 (by decide)
          have h82 := h82.keep h80 eG35 (by decide)
          have h91 := h91.keep h80 eG35 (by decide)
          have h92 := h92.keep h80 eG35 (by decide)
          have h110 := h110.keep h80 eG35 (by decide)
          have h111 := h111.keep h80 eG35 (by decide)
          have h94 := h94.keep h80 eG35 (by decide)
          have h95 := h95.keep h80 eG35 (by decide)
          have h96 := h96.keep h80 eG35 (by decide)
          have h97 := h97.keep h80 eG35 (by decide)
          have h98 := h98.keep h80 eG35 (by decide)
          have h99 := h99.keep h80 eG35 (by decide)
          have h100 := h100.keep h80 eG35 (by decide)
          have h101 := h101.keep h80 eG35 (by decide)
          have h90 := h90.keep h80 eG35 (by decide)
          have h89 := h89.keep h80 eG35 (by decide)
          have h105 := h105.keep h80 eG35 (by decide)
          have h106 := h106.keep h80 eG35 (by decide)
          have h107 := h107.keep h80 eG35 (by decide)
          have h108 := h108.keep h80 eG35 (by decide)
          have h109 := h109.keep h80 eG35 (by decide)
          have h102 := h102.keep h80 eG35 (by decide)
          have h103 := h103.keep h80 eG35 (by decide)
          have h104 := h104.keep h80 eG35 (by decide)
          have hlen := (z_len eG35).trans hlen
          have hsl := (z_sl h80 eG35 rfl).trans hsl
          have hfr := hfr.wr h80 eG35 (by decide)
          have h80 := h80.kept eG35
          change ab_W _ _ _ (List.set G13 80 (ab_ob 12 (mof m_thrown m_taped m_length m_out w219 g220 m_sets m_ranges m_nodes (a214 + 1) m_flags f215 p216 m_numbered m_depth v217 nt218 m_least0 m_most0 m_slot m_work m_got m_rowMany m_charAt m_charWide m_trail m_isMatch m_matchGroups m_allFrom m_allBefore m_founds m_pieces m_writtenMany m_templateWide m_tooMuch))) 120 [some (vR 80), some (vz m_at), some (vz 0), none] [] _
          rw [← eG35]
          refine ab_aload_n d_MO_readClass_120 rfl ?_
          refine ab_aload_n d_MO_readClass_121 rfl ?_
          refine ab_aload_n d_MO_readClass_122 rfl ?_
          refine ab_iload_n d_MO_readClass_123 rfl ?_
          refine ab_callV (d' := d - 1) (as := [vz 0]) (st := [vR 80, vR 80]) (r := _) (z_MO_close (o := o) (m_thrown := m_thrown) (m_taped := m_taped) (m_length := m_length) (m_out := m_out) (m_wide := w219) (m_gathered := g220) (m_sets := m_sets) (m_ranges := m_ranges) (m_nodes := m_nodes) (m_at := (a214 + 1)) (m_flags := m_flags) (m_fault := f215) (m_place := p216) (m_numbered := m_numbered) (m_depth := m_depth) (m_value := v217) (m_isNot := nt218) (m_least0 := m_least0) (m_most0 := m_most0) (m_slot := m_slot) (m_work := m_work) (m_got := m_got) (m_rowMany := m_rowMany) (m_charAt := m_charAt) (m_charWide := m_charWide) (m_trail := m_trail) (m_isMatch := m_isMatch) (m_matchGroups := m_matchGroups) (m_allFrom := m_allFrom) (m_allBefore := m_allBefore) (m_founds := m_founds) (m_pieces := m_pieces) (m_writtenMany := m_writtenMany) (m_templateWide := m_templateWide) (m_tooMuch := m_tooMuch) (LO := LO222) (HI := HI223) (MK := MK224) (RL := RL) (RH := RH) (SA := SA) (SM := SM) (P := P225) (nt := 0) (mm := m221) h80 h87 h88 h93 h91 h92 h89 h90 (by omega) hq28 (by omega) hcc_ hll_ jrl jrh (by omega)) (fun oc G2 h => by rcases h with ⟨_, _, _, _, _, _, h, _⟩ <;> exact ⟨_, h⟩) (by omega) m_MO_close ml_MO_368 im_MO_close se_MO_close c_MO h80.2.2 (Nat.le_of_ble_eq_true rfl) d_MO_readClass_124 rfl ?_
          intro v G36 hq
          rcases hq with ⟨g237, r238, LO239, HI240, RL241, RH242, hv, hfk, hlk, hsk, hN80, hN87, hN88, hN91, hN92, hN89, hN90, hq43, hq44, hq45, hq46, hq47⟩
          cases hv
          have h84 := hfk.get h84 (by decide)
          have h93 := hfk.get h93 (by decide)
          have h81 := hfk.get h81 (by decide)
          have h82 := hfk.get h82 (by decide)
          have h110 := hfk.get h110 (by decide)
          have h111 := hfk.get h111 (by decide)
          have h94 := hfk.get h94 (by decide)
          have h95 := hfk.get h95 (by decide)
          have h96 := hfk.get h96 (by decide)
          have h97 := hfk.get h97 (by decide)
          have h98 := hfk.get h98 (by decide)
          have h99 := hfk.get h99 (by decide)
          have h100 := hfk.get h100 (by decide)
          have h101 := hfk.get h101 (by decide)
          have h105 := hfk.get h105 (by decide)
          have h106 := hfk.get h106 (by decide)
          have h107 := hfk.get h107 (by decide)
          have h108 := hfk.get h108 (by decide)
          have h109 := hfk.get h109 (by decide)
          have h102 := hfk.get h102 (by decide)
          have h103 := hfk.get h103 (by decide)
          have h104 := hfk.get h104 (by decide)
          have hfr := hfr.tr hfk (by decide)
          have hlen := hlk.trans hlen
          have hsl := hsk.trans hsl
          have h80 := hN80
          have h87 := hN87
          have h88 := hN88
          have h91 := hN91
          have h92 := hN92
          have h89 := hN89
          have h90 := hN90
          change ab_W _ _ _ G36 127 [some (vR 80), some (vz m_at), some (vz 0), none] [vz m_sets, vR 80, vR 80] _
          refine zz_iconst d_MO_readClass_127 ?_
          refine ab_callV (d' := d - 1) (as := [vz m_sets, vz 0]) (st := [vR 80]) (r := _) (z_MO_setNode (o := o) (m_thrown := m_thrown) (m_taped := m_taped) (m_length := m_length) (m_out := m_out) (m_wide := w219) (m_gathered := g237) (m_sets := (m_sets + 1)) (m_ranges := r238) (m_nodes := m_nodes) (m_at := (a214 + 1)) (m_flags := m_flags) (m_fault := f215) (m_place := p216) (m_numbered := m_numbered) (m_depth := m_depth) (m_value := v217) (m_isNot := nt218) (m_least0 := m_least0) (m_most0 := m_most0) (m_slot := m_slot) (m_work := m_work) (m_got := m_got) (m_rowMany := m_rowMany) (m_charAt := m_charAt) (m_charWide := m_charWide) (m_trail := m_trail) (m_isMatch := m_isMatch) (m_matchGroups := m_matchGroups) (m_allFrom := m_allFrom) (m_allBefore := m_allBefore) (m_founds := m_founds) (m_pieces := m_pieces) (m_writtenMany := m_writtenMany) (m_templateWide := m_templateWide) (m_tooMuch := m_tooMuch) (K := K) (O := O) (Fi := Fi) (Be := Be) (Z := Z) (SM := (zu SM m_sets (r238 - m_ranges))) (s := m_sets) (on := 0) h80 h90 h94 h95 h96 h97 h100 (by omega) (by omega) (rgs_zu jsm (by omega)) (by omega)) (fun oc G2 h => by rcases h with ⟨_, h, _⟩ <;> exact ⟨_, h⟩) (by omega) m_MO_setNode ml_MO_371 im_MO_setNode se_MO_setNode c_MO h80.2.2 (Nat.le_of_ble_eq_true rfl) d_MO_readClass_128 rfl ?_
          intro v G48 hq
          rcases hq with ⟨z249, hv, hfk, hlk, hsk, hN80, hN94, hN95, hN96, hN97, hN100, hq50⟩
          cases hv
          have h84 := hfk.get h84 (by decide)
          have h87 := hfk.get h87 (by decide)
          have h88 := hfk.get h88 (by decide)
          have h93 := hfk.get h93 (by decide)
          have h81 := hfk.get h81 (by decide)
          have h82 := hfk.get h82 (by decide)
          have h91 := hfk.get h91 (by decide)
          have h92 := hfk.get h92 (by decide)
          have h110 := hfk.get h110 (by decide)
          have h111 := hfk.get h111 (by decide)
          have h98 := hfk.get h98 (by decide)
          have h99 := hfk.get h99 (by decide)
          have h101 := hfk.get h101 (by decide)
          have h90 := hfk.get h90 (by decide)
          have h89 := hfk.get h89 (by decide)
          have h105 := hfk.get h105 (by decide)
          have h106 := hfk.get h106 (by decide)
          have h107 := hfk.get h107 (by decide)
          have h108 := hfk.get h108 (by decide)
          have h109 := hfk.get h109 (by decide)
          have h102 := hfk.get h102 (by decide)
          have h103 := hfk.get h103 (by decide)
          have h104 := hfk.get h104 (by decide)
          have hfr := hfr.tr hfk (by decide)
          have hlen := hlk.trans hlen
          have hsl := hsk.trans hsl
          have h80 := hN80
          have h94 := hN94
          have h95 := hN95
          have h96 := hN96
          have h97 := hN97
          have h100 := hN100
          change ab_W _ _ _ G48 131 [some (vR 80), some (vz m_at), some (vz 0), none] [vz m_nodes, vR 80] _
          have hsz_ : zu SM m_sets (r238 - m_ranges) m_sets = (r238 - m_ranges) := zu_self _ _ _
          have ptrI_0 : trI o G48 0 (m_nodes + 1) (m_sets + 1) (m_depth + 1) m_nodes 0 6 ((a1_, b1_, c1_, d1_, e1_) :: t1_) rp ls z249 (fun s => if s = m_sets then (clno 0 P225) else SV s) ((ao1_, ro1_) :: ts1_) ro vv (mnS (clno 0 P225)) RL241 RH242 r238 0 0 := ⟨(zu K m_nodes 1), (zu O m_nodes m_sets), (zu Fi m_nodes (-1)), (zu Be m_nodes (-1)), Le, Mo, (zu Z m_nodes z249), LZ, (zu SM m_sets (r238 - m_ranges)), (zu SA m_sets m_ranges), QF, QL, AF, AL, SD, OA, OF, ON, h94, h95, h96, h97, h98, h99, h100, h101, h90, h89, h105, h106, h107, h108, h109, h102, h103, h104, (rgs_zu jk (by omega)), (rgs_zu jo (by omega)), (rgs_zu jfi (by omega)), (rgs_zu jbe (by omega)), jle, jmo, (rgs_zu jz (by omega)), jlz, (rgs_zu jsm (by omega)), (rgs_zu jsa (by omega)), jqf, jql, jaf, jal, jsd, joa, jof, jon, (rtk_leaf (rtk_ns (S := (clno 0 P225)) jt) (by omega) (Or.inr (Or.inl ⟨rfl, by omega, by omega, by omega, by rw [zu_self]; omega⟩)) (Or.inr (Or.inl ⟨rfl, mnS_ns (SV := SV)⟩))), (by omega), (fun h => absurd h (by decide)), (fun h => absurd h (by decide)), (fun h => absurd h (by decide)), (fun h => absurd h (by decide)), (fun _ => by rw [zu_self]; decide), (fun h => absurd h (by decide)), (sas_s jss (by omega)), (svR_s jsv hq47.1 hq47.2 hq46 (by omega))⟩
          refine zz_iconst d_MO_readClass_131 ?_
          refine ab_callV (d' := d - 1) (as := [vz m_nodes, vz 1]) (st := []) (r := _) (z1_MO_part (o := o) (m_thrown := m_thrown) (m_taped := m_taped) (m_length := m_length) (m_out := m_out) (m_wide := w219) (m_gathered := g237) (m_sets := (m_sets + 1)) (m_ranges := r238) (m_nodes := (m_nodes + 1)) (m_at := (a214 + 1)) (m_flags := m_flags) (m_fault := f215) (m_place := p216) (m_numbered := m_numbered) (m_depth := m_depth) (m_value := v217) (m_isNot := nt218) (m_least0 := m_least0) (m_most0 := m_most0) (m_slot := m_slot) (m_work := m_work) (m_got := m_got) (m_rowMany := m_rowMany) (m_charAt := m_charAt) (m_charWide := m_charWide) (m_trail := m_trail) (m_isMatch := m_isMatch) (m_matchGroups := m_matchGroups) (m_allFrom := m_allFrom) (m_allBefore := m_allBefore) (m_founds := m_founds) (m_pieces := m_pieces) (m_writtenMany := m_writtenMany) (m_templateWide := m_templateWide) (m_tooMuch := m_tooMuch) (x := m_nodes) (dh := 0) (rp := rp) (ls := ls) (dz := z249) (SV := (fun s => if s = m_sets then (clno 0 P225) else SV s)) (ro := ro) (vv := vv) (dv := (mnS (clno 0 P225))) (a1_ := a1_) (b1_ := b1_) (c1_ := c1_) (d1_ := d1_) (e1_ := e1_) (nu9 := 0) (fo9 := 0) (t1_ := t1_) (ao1_ := ao1_) (ro1_ := ro1_) (ts1_ := ts1_) (RL := RL241) (RH := RH242) h80 ptrI_0 (by omega) (by omega) (by omega) (by omega)) (fun oc G2 h => by rcases h with ⟨h, _⟩ <;> exact ⟨_, h⟩) (by omega) m_MO_part ml_MO_375 im_MO_part se_MO_part c_MO h80.2.2 (Nat.le_of_ble_eq_true rfl) d_MO_readClass_132 rfl ?_
          intro v G51 hq
          rcases hq with ⟨hv, hfk, hlk, hsk, pNtrI_0⟩
          cases hv
          have h80 := hfk.get h80 (by decide)
          have h84 := hfk.get h84 (by decide)
          have h87 := hfk.get h87 (by decide)
          have h88 := hfk.get h88 (by decide)
          have h93 := hfk.get h93 (by decide)
          have h81 := hfk.get h81 (by decide)
          have h82 := hfk.get h82 (by decide)
          have h91 := hfk.get h91 (by decide)
          have h92 := hfk.get h92 (by decide)
          have h110 := hfk.get h110 (by decide)
          have h111 := hfk.get h111 (by decide)
          have ptrI_0 := pNtrI_0
          have hfr := hfr.tr hfk (by decide)
          have hlen := hlk.trans hlen
          have hsl := hsk.trans hsl
          change ab_W _ _ _ G51 135 [some (vR 80), some (vz m_at), some (vz 0), none] [] _
          refine ab_vret rfl d_MO_readClass_135 ?_
          rw [hQ]; exact (Or.inl ⟨_, _, _, _, _, _, _, _, _, _, z249, _, _, _, _, _, (fun s => if s = m_sets then (clno 0 P225) else SV s), (mnS (clno 0 P225)), rfl, hfr, hlen, hsl, h80, h87, h88, h93, h91, h92, h110, h111, ptrI_0, (by omega), (by first | exact hq28 | exact rgs_w hq28 (by omega)), (by first | exact hq43 | exact rgs_w hq43 (by omega)), (by first | exact hq44 | exact rgs_w hq44 (by omega)), (by exact Or.inr (Or.inr (Or.inl ⟨by omega, 0, ((m_at + 1) + 0), _, (by unfold clb; omega), (by rw [show a214 + 1 - 1 = a214 by omega]; exact clH_t hq31 (by omega)), (by rw [show a214 + 1 - 1 = a214 by omega]; omega), clz_of hq46 (by omega)⟩))), (by exact Or.inr (Or.inr (Or.inl ⟨by omega, 0, ((m_at + 1) + 0), _, (by unfold clb; omega), (by rw [show a214 + 1 - 1 = a214 by omega]; exact clH_t hq31 (by omega)), (by rw [show a214 + 1 - 1 = a214 by omega]; omega), rfl⟩)))⟩)
        · refine ab_vret rfl d_MO_readClass_109 ?_
          rw [hQ]; exact (Or.inr ⟨_, _, _, _, _, _, _, _, _, _, rfl, hfr, hlen, hsl, h80, h87, h88, h93, h91, h92, h110, h111, ptrI_0, (by omega), (by first | exact hq28 | exact rgs_w hq28 (by omega)), (by exact Or.inr (Or.inl ⟨by omega, 0, ((m_at + 1) + 0), (by unfold clb; omega), clH_w hq31 (by omega)⟩))⟩)
    · refine zz_iconst d_MO_readClass_25 ?_
      refine ab_goto (tgt := 30) d_MO_readClass_26 (by decide) ?_
      refine ab_istore_n d_MO_readClass_30 (Nat.le_of_ble_eq_true rfl) (Nat.le_of_ble_eq_true rfl) rfl ?_
      change ab_W _ _ _ G1 31 [some (vR 80), some (vz m_at), some (vz 1), none] [] _
      refine ab_aload_n d_MO_readClass_31 rfl ?_
      refine ab_dup d_MO_readClass_32 rfl ?_
      refine ab_getf (fs := mof m_thrown m_taped m_length m_out m_wide m_gathered m_sets m_ranges m_nodes (m_at + 1) m_flags m_fault m_place m_numbered m_depth m_value m_isNot m_least0 m_most0 m_slot m_work m_got m_rowMany m_charAt m_charWide m_trail m_isMatch m_matchGroups m_allFrom m_allBefore m_founds m_pieces m_writtenMany m_templateWide m_tooMuch) f_MO_279 d_MO_readClass_33 h80.2.2 rfl ?_
      refine ab_iload_n d_MO_readClass_36 rfl ?_
      refine zz_if_eq (tgt := 44) d_MO_readClass_37 (by decide) (by decide) (fun c52 => absurd c52 (by decide)) (fun c52 => ?_)
      refine zz_iconst d_MO_readClass_40 ?_
      refine ab_goto (tgt := 45) d_MO_readClass_41 (by decide) ?_
      refine zz_iadd d_MO_readClass_45 ?_
      refine ab_putf (fs := mof m_thrown m_taped m_length m_out m_wide m_gathered m_sets m_ranges m_nodes (m_at + 1) m_flags m_fault m_place m_numbered m_depth m_value m_isNot m_least0 m_most0 m_slot m_work m_got m_rowMany m_charAt m_charWide m_trail m_isMatch m_matchGroups m_allFrom m_allBefore m_founds m_pieces m_writtenMany m_templateWide m_tooMuch) f_MO_279 (Or.inl rfl) d_MO_readClass_46 h80.2.2 (Nat.le_of_ble_eq_true rfl) (fun _ => ⟨rfl, rfl⟩) (h80.2.1 (by decide)) ?_
      obtain ⟨G53, eG53⟩ : ∃ z : ab_G, z = List.set G1 80 (ab_ob 12 (mof m_thrown m_taped m_length m_out m_wide m_gathered m_sets m_ranges m_nodes ((m_at + 1) + 1) m_flags m_fault m_place m_numbered m_depth m_value m_isNot m_least0 m_most0 m_slot m_work m_got m_rowMany m_charAt m_charWide m_trail m_isMatch m_matchGroups m_allFrom m_allBefore m_founds m_pieces m_writtenMany m_templateWide m_tooMuch)) := ⟨_, rfl⟩
      have h84 := h84.keep h80 eG53 (by decide)
      have h87 := h87.keep h80 eG53 (by decide)
      have h88 := h88.keep h80 eG53 (by decide)
      have h93 := h93.keep h80 eG53 (by decide)
      have h81 := h81.keep h80 eG53 (by decide)
      have h82 := h82.keep h80 eG53 (by decide)
      have h91 := h91.keep h80 eG53 (by decide)
      have h92 := h92.keep h80 eG53 (by decide)
      have h110 := h110.keep h80 eG53 (by decide)
      have h111 := h111.keep h80 eG53 (by decide)
      have hst := (fx.rf (o := o) (S := [280]) (G := G1)).wr h80 eG53 (List.mem_singleton.mpr rfl)
      have ptrI_0 := trI.fr hst ptrI_0 (by decide) (by decide) (by decide) (by decide) (by decide) (by decide) (by decide) (by decide) (by decide) (by decide) (by decide) (by decide) (by decide) (by decide) (by decide) (by decide) (by decide) (by decide)
      have hlen := (z_len eG53).trans hlen
      have hsl := (z_sl h80 eG53 rfl).trans hsl
      have hfr := hfr.wr h80 eG53 (by decide)
      have h80 := h80.kept eG53
      change ab_W _ _ _ (List.set G1 80 (ab_ob 12 (mof m_thrown m_taped m_length m_out m_wide m_gathered m_sets m_ranges m_nodes ((m_at + 1) + 1) m_flags m_fault m_place m_numbered m_depth m_value m_isNot m_least0 m_most0 m_slot m_work m_got m_rowMany m_charAt m_charWide m_trail m_isMatch m_matchGroups m_allFrom m_allBefore m_founds m_pieces m_writtenMany m_templateWide m_tooMuch))) 49 [some (vR 80), some (vz m_at), some (vz 1), none] [] _
      rw [← eG53]
      refine ab_aload_n d_MO_readClass_49 rfl ?_
      refine ab_callV (d' := d - 1) (as := []) (st := []) (r := _) (z_MO_begin (o := o) (m_thrown := m_thrown) (m_taped := m_taped) (m_length := m_length) (m_out := m_out) (m_wide := m_wide) (m_gathered := m_gathered) (m_sets := m_sets) (m_ranges := m_ranges) (m_nodes := m_nodes) (m_at := ((m_at + 1) + 1)) (m_flags := m_flags) (m_fault := m_fault) (m_place := m_place) (m_numbered := m_numbered) (m_depth := m_depth) (m_value := m_value) (m_isNot := m_isNot) (m_least0 := m_least0) (m_most0 := m_most0) (m_slot := m_slot) (m_work := m_work) (m_got := m_got) (m_rowMany := m_rowMany) (m_charAt := m_charAt) (m_charWide := m_charWide) (m_trail := m_trail) (m_isMatch := m_isMatch) (m_matchGroups := m_matchGroups) (m_allFrom := m_allFrom) (m_allBefore := m_allBefore) (m_founds := m_founds) (m_pieces := m_pieces) (m_writtenMany := m_writtenMany) (m_templateWide := m_templateWide) (m_tooMuch := m_tooMuch) (LO := LO) (HI := HI) (MK := MK) h80 h93 h87 h88 (by omega) jmk (by omega)) (fun oc G2 h => by rcases h with ⟨_, h, _⟩ <;> exact ⟨_, h⟩) (by omega) m_MO_begin ml_MO_362 im_MO_begin se_MO_begin c_MO h80.2.2 (Nat.le_of_ble_eq_true rfl) d_MO_readClass_50 rfl ?_
      intro v G54 hq
      rcases hq with ⟨MK255, hv, hfk, hlk, hsk, hN80, hN93, hq56, hq57⟩
      cases hv
      have h84 := hfk.get h84 (by decide)
      have h87 := hfk.get h87 (by decide)
      have h88 := hfk.get h88 (by decide)
      have h81 := hfk.get h81 (by decide)
      have h82 := hfk.get h82 (by decide)
      have h91 := hfk.get h91 (by decide)
      have h92 := hfk.get h92 (by decide)
      have h110 := hfk.get h110 (by decide)
      have h111 := hfk.get h111 (by decide)
      have ptrI_0 := trI.fr hfk ptrI_0 (by decide) (by decide) (by decide) (by decide) (by decide) (by decide) (by decide) (by decide) (by decide) (by decide) (by decide) (by decide) (by decide) (by decide) (by decide) (by decide) (by decide) (by decide)
      have hfr := hfr.tr hfk (by decide)
      have hlen := hlk.trans hlen
      have hsl := hsk.trans hsl
      have h80 := hN80
      have h93 := hN93
      change ab_W _ _ _ G54 53 [some (vR 80), some (vz m_at), some (vz 1), none] [] _
      refine zz_iconst d_MO_readClass_53 ?_
      refine ab_istore_n d_MO_readClass_54 (Nat.le_of_ble_eq_true rfl) (Nat.le_of_ble_eq_true rfl) rfl ?_
      change ab_W _ _ _ G54 55 [some (vR 80), some (vz m_at), some (vz 1), some (vz 0)] [] _
      refine y_MO_readClass_55 (m_thrown := m_thrown) (m_taped := m_taped) (m_length := m_length) (m_out := m_out) (m_sets := m_sets) (m_ranges := m_ranges) (m_nodes := m_nodes) (m_flags := m_flags) (m_numbered := m_numbered) (m_depth := m_depth) (m_least0 := m_least0) (m_most0 := m_most0) (m_slot := m_slot) (m_work := m_work) (m_got := m_got) (m_rowMany := m_rowMany) (m_charAt := m_charAt) (m_charWide := m_charWide) (m_trail := m_trail) (m_isMatch := m_isMatch) (m_matchGroups := m_matchGroups) (m_allFrom := m_allFrom) (m_allBefore := m_allBefore) (m_founds := m_founds) (m_pieces := m_pieces) (m_writtenMany := m_writtenMany) (m_templateWide := m_templateWide) (m_tooMuch := m_tooMuch) (A_tape := A_tape) (wh := m_at) (nt := 1) (a0 := ((m_at + 1) + 1)) (pl0 := m_place) (G0 := G54) (m_at := ((m_at + 1) + 1)) (m_fault := m_fault) (m_place := m_place) (m_value := m_value) (m_isNot := m_isNot) (m_wide := m_wide) (m_gathered := 0) (LO := LO) (HI := HI) (MK := MK255) (P := (fun _ => False)) (bg := 0) (mq := 0) (ms := (m_taped + 2 - ((m_at + 1) + 1))) (by omega) (by omega) jtp (by omega) (by omega) (by omega) (Int.toNat (m_taped + 2 - ((m_at + 1) + 1)) + 1) h80 h84 h87 h88 h93 h81 h82 (by omega) (fun _ => by omega) hq56 (fun _ => hq57) (fun _ => lfc_0 (fun _ h => h)) (clH_0 (by omega) rfl (fun _ h => h)) (by omega) (by omega) fx.rf rfl rfl (by omega) (fun G58 a259 f260 p261 v262 nt263 w264 g265 m266 LO267 HI268 MK269 P270 hN80 hN87 hN88 hN93 hq71 hq72 hq73 hq74 hq75 hq76 hq77 hq78 hfk hlk hsk => ?_)
      · have h84 := hfk.get h84 (by decide)
        have h81 := hfk.get h81 (by decide)
        have h82 := hfk.get h82 (by decide)
        have h91 := hfk.get h91 (by decide)
        have h92 := hfk.get h92 (by decide)
        have h110 := hfk.get h110 (by decide)
        have h111 := hfk.get h111 (by decide)
        have ptrI_0 := trI.fr hfk ptrI_0 (by decide) (by decide) (by decide) (by decide) (by decide) (by decide) (by decide) (by decide) (by decide) (by decide) (by decide) (by decide) (by decide) (by decide) (by decide) (by decide) (by decide) (by decide)
        have hfr := hfr.tr hfk (by decide)
        have hlen := hlk.trans hlen
        have hsl := hsk.trans hsl
        have h80 := hN80
        have h87 := hN87
        have h88 := hN88
        have h93 := hN93
        change ab_W _ _ _ G58 102 [some (vR 80), some (vz m_at), some (vz 1), none] [] _
        refine ab_aload_n d_MO_readClass_102 rfl ?_
        refine ab_getf (fs := mof m_thrown m_taped m_length m_out w264 g265 m_sets m_ranges m_nodes a259 m_flags f260 p261 m_numbered m_depth v262 nt263 m_least0 m_most0 m_slot m_work m_got m_rowMany m_charAt m_charWide m_trail m_isMatch m_matchGroups m_allFrom m_allBefore m_founds m_pieces m_writtenMany m_templateWide m_tooMuch) f_MO_273 d_MO_readClass_103 h80.2.2 rfl ?_
        refine zz_if_le (tgt := 110) d_MO_readClass_106 (by decide) (by omega) (fun c79 => ?_) (fun c79 => ?_)
        · have hcj_ := hq72 (by omega)
          have hcc_ := hq74 (by omega)
          have hll_ := hq75 (by omega)
          obtain ⟨K, O, Fi, Be, Le, Mo, Z, LZ, SM, SA, QF, QL, AF, AL, SD, OA, OF, ON, h94, h95, h96, h97, h98, h99, h100, h101, h90, h89, h105, h106, h107, h108, h109, h102, h103, h104, jk, jo, jfi, jbe, jle, jmo, jz, jlz, jsm, jsa, jqf, jql, jaf, jal, jsd, joa, jof, jon, jt, cnd, cre, crs, crz, ck5, ck6, ck7, jss, jsv⟩ := ptrI_0
          refine ab_aload_n d_MO_readClass_110 rfl ?_
          refine ab_dup d_MO_readClass_111 rfl ?_
          refine ab_getf (fs := mof m_thrown m_taped m_length m_out w264 g265 m_sets m_ranges m_nodes a259 m_flags f260 p261 m_numbered m_depth v262 nt263 m_least0 m_most0 m_slot m_work m_got m_rowMany m_charAt m_charWide m_trail m_isMatch m_matchGroups m_allFrom m_allBefore m_founds m_pieces m_writtenMany m_templateWide m_tooMuch) f_MO_279 d_MO_readClass_112 h80.2.2 rfl ?_
          refine zz_iconst d_MO_readClass_115 ?_
          refine zz_iadd d_MO_readClass_116 ?_
          refine ab_putf (fs := mof m_thrown m_taped m_length m_out w264 g265 m_sets m_ranges m_nodes a259 m_flags f260 p261 m_numbered m_depth v262 nt263 m_least0 m_most0 m_slot m_work m_got m_rowMany m_charAt m_charWide m_trail m_isMatch m_matchGroups m_allFrom m_allBefore m_founds m_pieces m_writtenMany m_templateWide m_tooMuch) f_MO_279 (Or.inl rfl) d_MO_readClass_117 h80.2.2 (Nat.le_of_ble_eq_true rfl) (fun _ => ⟨rfl, rfl⟩) (h80.2.1 (by decide)) ?_
          obtain ⟨G80, eG80⟩ : ∃ z : ab_G, z = List.set G58 80 (ab_ob 12 (mof m_thrown m_taped m_length m_out w264 g265 m_sets m_ranges m_nodes (a259 + 1) m_flags f260 p261 m_numbered m_depth v262 nt263 m_least0 m_most0 m_slot m_work m_got m_rowMany m_charAt m_charWide m_trail m_isMatch m_matchGroups m_allFrom m_allBefore m_founds m_pieces m_writtenMany m_templateWide m_tooMuch)) := ⟨_, rfl⟩
          have h84 := h84.keep h80 eG80 (by decide)
          have h87 := h87.keep h80 eG80 (by decide)
          have h88 := h88.keep h80 eG80 (by decide)
          have h93 := h93.keep h80 eG80 (by decide)
          have h81 := h81.keep h80 eG80 (by decide)
          have h82 := h82.keep h80 eG80 (by decide)
          have h91 := h91.keep h80 eG80 (by decide)
          have h92 := h92.keep h80 eG80 (by decide)
          have h110 := h110.keep h80 eG80 (by decide)
          have h111 := h111.keep h80 eG80 (by decide)
          have h94 := h94.keep h80 eG80 (by decide)
          have h95 := h95.keep h80 eG80 (by decide)
          have h96 := h96.keep h80 eG80 (by decide)
          have h97 := h97.keep h80 eG80 (by decide)
          have h98 := h98.keep h80 eG80 (by decide)
          have h99 := h99.keep h80 eG80 (by decide)
          have h100 := h100.keep h80 eG80 (by decide)
          have h101 := h101.keep h80 eG80 (by decide)
          have h90 := h90.keep h80 eG80 (by decide)
          have h89 := h89.keep h80 eG80 (by decide)
          have h105 := h105.keep h80 eG80 (by decide)
          have h106 := h106.keep h80 eG80 (by decide)
          have h107 := h107.keep h80 eG80 (by decide)
          have h108 := h108.keep h80 eG80 (by decide)
          have h109 := h109.keep h80 eG80 (by decide)
          have h102 := h102.keep h80 eG80 (by decide)
          have h103 := h103.keep h80 eG80 (by decide)
          have h104 := h104.keep h80 eG80 (by decide)
          have hlen := (z_len eG80).trans hlen
          have hsl := (z_sl h80 eG80 rfl).trans hsl
          have hfr := hfr.wr h80 eG80 (by decide)
          have h80 := h80.kept eG80
          change ab_W _ _ _ (List.set G58 80 (ab_ob 12 (mof m_thrown m_taped m_length m_out w264 g265 m_sets m_ranges m_nodes (a259 + 1) m_flags f260 p261 m_numbered m_depth v262 nt263 m_least0 m_most0 m_slot m_work m_got m_rowMany m_charAt m_charWide m_trail m_isMatch m_matchGroups m_allFrom m_allBefore m_founds m_pieces m_writtenMany m_templateWide m_tooMuch))) 120 [some (vR 80), some (vz m_at), some (vz 1), none] [] _
          rw [← eG80]
          refine ab_aload_n d_MO_readClass_120 rfl ?_
          refine ab_aload_n d_MO_readClass_121 rfl ?_
          refine ab_aload_n d_MO_readClass_122 rfl ?_
          refine ab_iload_n d_MO_readClass_123 rfl ?_
          refine ab_callV (d' := d - 1) (as := [vz 1]) (st := [vR 80, vR 80]) (r := _) (z_MO_close (o := o) (m_thrown := m_thrown) (m_taped := m_taped) (m_length := m_length) (m_out := m_out) (m_wide := w264) (m_gathered := g265) (m_sets := m_sets) (m_ranges := m_ranges) (m_nodes := m_nodes) (m_at := (a259 + 1)) (m_flags := m_flags) (m_fault := f260) (m_place := p261) (m_numbered := m_numbered) (m_depth := m_depth) (m_value := v262) (m_isNot := nt263) (m_least0 := m_least0) (m_most0 := m_most0) (m_slot := m_slot) (m_work := m_work) (m_got := m_got) (m_rowMany := m_rowMany) (m_charAt := m_charAt) (m_charWide := m_charWide) (m_trail := m_trail) (m_isMatch := m_isMatch) (m_matchGroups := m_matchGroups) (m_allFrom := m_allFrom) (m_allBefore := m_allBefore) (m_founds := m_founds) (m_pieces := m_pieces) (m_writtenMany := m_writtenMany) (m_templateWide := m_templateWide) (m_tooMuch := m_tooMuch) (LO := LO267) (HI := HI268) (MK := MK269) (RL := RL) (RH := RH) (SA := SA) (SM := SM) (P := P270) (nt := 1) (mm := m266) h80 h87 h88 h93 h91 h92 h89 h90 (by omega) hq73 (by omega) hcc_ hll_ jrl jrh (by omega)) (fun oc G2 h => by rcases h with ⟨_, _, _, _, _, _, h, _⟩ <;> exact ⟨_, h⟩) (by omega) m_MO_close ml_MO_368 im_MO_close se_MO_close c_MO h80.2.2 (Nat.le_of_ble_eq_true rfl) d_MO_readClass_124 rfl ?_
          intro v G81 hq
          rcases hq with ⟨g282, r283, LO284, HI285, RL286, RH287, hv, hfk, hlk, hsk, hN80, hN87, hN88, hN91, hN92, hN89, hN90, hq88, hq89, hq90, hq91, hq92⟩
          cases hv
          have h84 := hfk.get h84 (by decide)
          have h93 := hfk.get h93 (by decide)
          have h81 := hfk.get h81 (by decide)
          have h82 := hfk.get h82 (by decide)
          have h110 := hfk.get h110 (by decide)
          have h111 := hfk.get h111 (by decide)
          have h94 := hfk.get h94 (by decide)
          have h95 := hfk.get h95 (by decide)
          have h96 := hfk.get h96 (by decide)
          have h97 := hfk.get h97 (by decide)
          have h98 := hfk.get h98 (by decide)
          have h99 := hfk.get h99 (by decide)
          have h100 := hfk.get h100 (by decide)
          have h101 := hfk.get h101 (by decide)
          have h105 := hfk.get h105 (by decide)
          have h106 := hfk.get h106 (by decide)
          have h107 := hfk.get h107 (by decide)
          have h108 := hfk.get h108 (by decide)
          have h109 := hfk.get h109 (by decide)
          have h102 := hfk.get h102 (by decide)
          have h103 := hfk.get h103 (by decide)
          have h104 := hfk.get h104 (by decide)
          have hfr := hfr.tr hfk (by decide)
          have hlen := hlk.trans hlen
          have hsl := hsk.trans hsl
          have h80 := hN80
          have h87 := hN87
          have h88 := hN88
          have h91 := hN91
          have h92 := hN92
          have h89 := hN89
          have h90 := hN90
          change ab_W _ _ _ G81 127 [some (vR 80), some (vz m_at), some (vz 1), none] [vz m_sets, vR 80, vR 80] _
          refine zz_iconst d_MO_readClass_127 ?_
          refine ab_callV (d' := d - 1) (as := [vz m_sets, vz 0]) (st := [vR 80]) (r := _) (z_MO_setNode (o := o) (m_thrown := m_thrown) (m_taped := m_taped) (m_length := m_length) (m_out := m_out) (m_wide := w264) (m_gathered := g282) (m_sets := (m_sets + 1)) (m_ranges := r283) (m_nodes := m_nodes) (m_at := (a259 + 1)) (m_flags := m_flags) (m_fault := f260) (m_place := p261) (m_numbered := m_numbered) (m_depth := m_depth) (m_value := v262) (m_isNot := nt263) (m_least0 := m_least0) (m_most0 := m_most0) (m_slot := m_slot) (m_work := m_work) (m_got := m_got) (m_rowMany := m_rowMany) (m_charAt := m_charAt) (m_charWide := m_charWide) (m_trail := m_trail) (m_isMatch := m_isMatch) (m_matchGroups := m_matchGroups) (m_allFrom := m_allFrom) (m_allBefore := m_allBefore) (m_founds := m_founds) (m_pieces := m_pieces) (m_writtenMany := m_writtenMany) (m_templateWide := m_templateWide) (m_tooMuch := m_tooMuch) (K := K) (O := O) (Fi := Fi) (Be := Be) (Z := Z) (SM := (zu SM m_sets (r283 - m_ranges))) (s := m_sets) (on := 0) h80 h90 h94 h95 h96 h97 h100 (by omega) (by omega) (rgs_zu jsm (by omega)) (by omega)) (fun oc G2 h => by rcases h with ⟨_, h, _⟩ <;> exact ⟨_, h⟩) (by omega) m_MO_setNode ml_MO_371 im_MO_setNode se_MO_setNode c_MO h80.2.2 (Nat.le_of_ble_eq_true rfl) d_MO_readClass_128 rfl ?_
          intro v G93 hq
          rcases hq with ⟨z294, hv, hfk, hlk, hsk, hN80, hN94, hN95, hN96, hN97, hN100, hq95⟩
          cases hv
          have h84 := hfk.get h84 (by decide)
          have h87 := hfk.get h87 (by decide)
          have h88 := hfk.get h88 (by decide)
          have h93 := hfk.get h93 (by decide)
          have h81 := hfk.get h81 (by decide)
          have h82 := hfk.get h82 (by decide)
          have h91 := hfk.get h91 (by decide)
          have h92 := hfk.get h92 (by decide)
          have h110 := hfk.get h110 (by decide)
          have h111 := hfk.get h111 (by decide)
          have h98 := hfk.get h98 (by decide)
          have h99 := hfk.get h99 (by decide)
          have h101 := hfk.get h101 (by decide)
          have h90 := hfk.get h90 (by decide)
          have h89 := hfk.get h89 (by decide)
          have h105 := hfk.get h105 (by decide)
          have h106 := hfk.get h106 (by decide)
          have h107 := hfk.get h107 (by decide)
          have h108 := hfk.get h108 (by decide)
          have h109 := hfk.get h109 (by decide)
          have h102 := hfk.get h102 (by decide)
          have h103 := hfk.get h103 (by decide)
          have h104 := hfk.get h104 (by decide)
          have hfr := hfr.tr hfk (by decide)
          have hlen := hlk.trans hlen
          have hsl := hsk.trans hsl
          have h80 := hN80
          have h94 := hN94
          have h95 := hN95
          have h96 := hN96
          have h97 := hN97
          have h100 := hN100
          change ab_W _ _ _ G93 131 [some (vR 80), some (vz m_at), some (vz 1), none] [vz m_nodes, vR 80] _
          have hsz_ : zu SM m_sets (r283 - m_ranges) m_sets = (r283 - m_ranges) := zu_self _ _ _
          have ptrI_0 : trI o G93 0 (m_nodes + 1) (m_sets + 1) (m_depth + 1) m_nodes 0 6 ((a1_, b1_, c1_, d1_, e1_) :: t1_) rp ls z294 (fun s => if s = m_sets then (clno 1 P270) else SV s) ((ao1_, ro1_) :: ts1_) ro vv (mnS (clno 1 P270)) RL286 RH287 r283 0 0 := ⟨(zu K m_nodes 1), (zu O m_nodes m_sets), (zu Fi m_nodes (-1)), (zu Be m_nodes (-1)), Le, Mo, (zu Z m_nodes z294), LZ, (zu SM m_sets (r283 - m_ranges)), (zu SA m_sets m_ranges), QF, QL, AF, AL, SD, OA, OF, ON, h94, h95, h96, h97, h98, h99, h100, h101, h90, h89, h105, h106, h107, h108, h109, h102, h103, h104, (rgs_zu jk (by omega)), (rgs_zu jo (by omega)), (rgs_zu jfi (by omega)), (rgs_zu jbe (by omega)), jle, jmo, (rgs_zu jz (by omega)), jlz, (rgs_zu jsm (by omega)), (rgs_zu jsa (by omega)), jqf, jql, jaf, jal, jsd, joa, jof, jon, (rtk_leaf (rtk_ns (S := (clno 1 P270)) jt) (by omega) (Or.inr (Or.inl ⟨rfl, by omega, by omega, by omega, by rw [zu_self]; omega⟩)) (Or.inr (Or.inl ⟨rfl, mnS_ns (SV := SV)⟩))), (by omega), (fun h => absurd h (by decide)), (fun h => absurd h (by decide)), (fun h => absurd h (by decide)), (fun h => absurd h (by decide)), (fun _ => by rw [zu_self]; decide), (fun h => absurd h (by decide)), (sas_s jss (by omega)), (svR_s jsv hq92.1 hq92.2 hq91 (by omega))⟩
          refine zz_iconst d_MO_readClass_131 ?_
          refine ab_callV (d' := d - 1) (as := [vz m_nodes, vz 1]) (st := []) (r := _) (z1_MO_part (o := o) (m_thrown := m_thrown) (m_taped := m_taped) (m_length := m_length) (m_out := m_out) (m_wide := w264) (m_gathered := g282) (m_sets := (m_sets + 1)) (m_ranges := r283) (m_nodes := (m_nodes + 1)) (m_at := (a259 + 1)) (m_flags := m_flags) (m_fault := f260) (m_place := p261) (m_numbered := m_numbered) (m_depth := m_depth) (m_value := v262) (m_isNot := nt263) (m_least0 := m_least0) (m_most0 := m_most0) (m_slot := m_slot) (m_work := m_work) (m_got := m_got) (m_rowMany := m_rowMany) (m_charAt := m_charAt) (m_charWide := m_charWide) (m_trail := m_trail) (m_isMatch := m_isMatch) (m_matchGroups := m_matchGroups) (m_allFrom := m_allFrom) (m_allBefore := m_allBefore) (m_founds := m_founds) (m_pieces := m_pieces) (m_writtenMany := m_writtenMany) (m_templateWide := m_templateWide) (m_tooMuch := m_tooMuch) (x := m_nodes) (dh := 0) (rp := rp) (ls := ls) (dz := z294) (SV := (fun s => if s = m_sets then (clno 1 P270) else SV s)) (ro := ro) (vv := vv) (dv := (mnS (clno 1 P270))) (a1_ := a1_) (b1_ := b1_) (c1_ := c1_) (d1_ := d1_) (e1_ := e1_) (nu9 := 0) (fo9 := 0) (t1_ := t1_) (ao1_ := ao1_) (ro1_ := ro1_) (ts1_ := ts1_) (RL := RL286) (RH := RH287) h80 ptrI_0 (by omega) (by omega) (by omega) (by omega)) (fun oc G2 h => by rcases h with ⟨h, _⟩ <;> exact ⟨_, h⟩) (by omega) m_MO_part ml_MO_375 im_MO_part se_MO_part c_MO h80.2.2 (Nat.le_of_ble_eq_true rfl) d_MO_readClass_132 rfl ?_
          intro v G96 hq
          rcases hq with ⟨hv, hfk, hlk, hsk, pNtrI_0⟩
          cases hv
          have h80 := hfk.get h80 (by decide)
          have h84 := hfk.get h84 (by decide)
          have h87 := hfk.get h87 (by decide)
          have h88 := hfk.get h88 (by decide)
          have h93 := hfk.get h93 (by decide)
          have h81 := hfk.get h81 (by decide)
          have h82 := hfk.get h82 (by decide)
          have h91 := hfk.get h91 (by decide)
          have h92 := hfk.get h92 (by decide)
          have h110 := hfk.get h110 (by decide)
          have h111 := hfk.get h111 (by decide)
          have ptrI_0 := pNtrI_0
          have hfr := hfr.tr hfk (by decide)
          have hlen := hlk.trans hlen
          have hsl := hsk.trans hsl
          change ab_W _ _ _ G96 135 [some (vR 80), some (vz m_at), some (vz 1), none] [] _
          refine ab_vret rfl d_MO_readClass_135 ?_
          rw [hQ]; exact (Or.inl ⟨_, _, _, _, _, _, _, _, _, _, z294, _, _, _, _, _, (fun s => if s = m_sets then (clno 1 P270) else SV s), (mnS (clno 1 P270)), rfl, hfr, hlen, hsl, h80, h87, h88, h93, h91, h92, h110, h111, ptrI_0, (by omega), (by first | exact hq73 | exact rgs_w hq73 (by omega)), (by first | exact hq88 | exact rgs_w hq88 (by omega)), (by first | exact hq89 | exact rgs_w hq89 (by omega)), (by exact Or.inr (Or.inr (Or.inl ⟨by omega, 1, ((m_at + 1) + 1), _, (by unfold clb; omega), (by rw [show a259 + 1 - 1 = a259 by omega]; exact clH_t hq76 (by omega)), (by rw [show a259 + 1 - 1 = a259 by omega]; omega), clz_of hq91 (by omega)⟩))), (by exact Or.inr (Or.inr (Or.inl ⟨by omega, 1, ((m_at + 1) + 1), _, (by unfold clb; omega), (by rw [show a259 + 1 - 1 = a259 by omega]; exact clH_t hq76 (by omega)), (by rw [show a259 + 1 - 1 = a259 by omega]; omega), rfl⟩)))⟩)
        · refine ab_vret rfl d_MO_readClass_109 ?_
          rw [hQ]; exact (Or.inr ⟨_, _, _, _, _, _, _, _, _, _, rfl, hfr, hlen, hsl, h80, h87, h88, h93, h91, h92, h110, h111, ptrI_0, (by omega), (by first | exact hq73 | exact rgs_w hq73 (by omega)), (by exact Or.inr (Or.inl ⟨by omega, 1, ((m_at + 1) + 1), (by unfold clb; omega), clH_w hq76 (by omega)⟩))⟩)
  · cases hv
    rw [hGe]
    change ab_W _ _ _ G1 20 [some (vR 80), some (vz m_at), none, none] [vz (-1)] _
    refine zz_bipush d_MO_readClass_20 (by decide) ?_
    refine zz_icmp_ne (tgt := 29) d_MO_readClass_22 (by decide) (by decide) (by decide) (fun c97 => ?_) (fun c97 => absurd c97 (by decide))
    refine zz_iconst d_MO_readClass_29 ?_
    refine ab_istore_n d_MO_readClass_30 (Nat.le_of_ble_eq_true rfl) (Nat.le_of_ble_eq_true rfl) rfl ?_
    change ab_W _ _ _ G1 31 [some (vR 80), some (vz m_at), some (vz 0), none] [] _
    refine ab_aload_n d_MO_readClass_31 rfl ?_
    refine ab_dup d_MO_readClass_32 rfl ?_
    refine ab_getf (fs := mof m_thrown m_taped m_length m_out m_wide m_gathered m_sets m_ranges m_nodes (m_at + 1) m_flags m_fault m_place m_numbered m_depth m_value m_isNot m_least0 m_most0 m_slot m_work m_got m_rowMany m_charAt m_charWide m_trail m_isMatch m_matchGroups m_allFrom m_allBefore m_founds m_pieces m_writtenMany m_templateWide m_tooMuch) f_MO_279 d_MO_readClass_33 h80.2.2 rfl ?_
    refine ab_iload_n d_MO_readClass_36 rfl ?_
    refine zz_if_eq (tgt := 44) d_MO_readClass_37 (by decide) (by decide) (fun c98 => ?_) (fun c98 => absurd c98 (by decide))
    refine zz_iconst d_MO_readClass_44 ?_
    refine zz_iadd d_MO_readClass_45 ?_
    refine ab_putf (fs := mof m_thrown m_taped m_length m_out m_wide m_gathered m_sets m_ranges m_nodes (m_at + 1) m_flags m_fault m_place m_numbered m_depth m_value m_isNot m_least0 m_most0 m_slot m_work m_got m_rowMany m_charAt m_charWide m_trail m_isMatch m_matchGroups m_allFrom m_allBefore m_founds m_pieces m_writtenMany m_templateWide m_tooMuch) f_MO_279 (Or.inl rfl) d_MO_readClass_46 h80.2.2 (Nat.le_of_ble_eq_true rfl) (fun _ => ⟨rfl, rfl⟩) (h80.2.1 (by decide)) ?_
    obtain ⟨G99, eG99⟩ : ∃ z : ab_G, z = List.set G1 80 (ab_ob 12 (mof m_thrown m_taped m_length m_out m_wide m_gathered m_sets m_ranges m_nodes ((m_at + 1) + 0) m_flags m_fault m_place m_numbered m_depth m_value m_isNot m_least0 m_most0 m_slot m_work m_got m_rowMany m_charAt m_charWide m_trail m_isMatch m_matchGroups m_allFrom m_allBefore m_founds m_pieces m_writtenMany m_templateWide m_tooMuch)) := ⟨_, rfl⟩
    have h84 := h84.keep h80 eG99 (by decide)
    have h87 := h87.keep h80 eG99 (by decide)
    have h88 := h88.keep h80 eG99 (by decide)
    have h93 := h93.keep h80 eG99 (by decide)
    have h81 := h81.keep h80 eG99 (by decide)
    have h82 := h82.keep h80 eG99 (by decide)
    have h91 := h91.keep h80 eG99 (by decide)
    have h92 := h92.keep h80 eG99 (by decide)
    have h110 := h110.keep h80 eG99 (by decide)
    have h111 := h111.keep h80 eG99 (by decide)
    have hst := (fx.rf (o := o) (S := [280]) (G := G1)).wr h80 eG99 (List.mem_singleton.mpr rfl)
    have ptrI_0 := trI.fr hst ptrI_0 (by decide) (by decide) (by decide) (by decide) (by decide) (by decide) (by decide) (by decide) (by decide) (by decide) (by decide) (by decide) (by decide) (by decide) (by decide) (by decide) (by decide) (by decide)
    have hlen := (z_len eG99).trans hlen
    have hsl := (z_sl h80 eG99 rfl).trans hsl
    have hfr := hfr.wr h80 eG99 (by decide)
    have h80 := h80.kept eG99
    change ab_W _ _ _ (List.set G1 80 (ab_ob 12 (mof m_thrown m_taped m_length m_out m_wide m_gathered m_sets m_ranges m_nodes ((m_at + 1) + 0) m_flags m_fault m_place m_numbered m_depth m_value m_isNot m_least0 m_most0 m_slot m_work m_got m_rowMany m_charAt m_charWide m_trail m_isMatch m_matchGroups m_allFrom m_allBefore m_founds m_pieces m_writtenMany m_templateWide m_tooMuch))) 49 [some (vR 80), some (vz m_at), some (vz 0), none] [] _
    rw [← eG99]
    refine ab_aload_n d_MO_readClass_49 rfl ?_
    refine ab_callV (d' := d - 1) (as := []) (st := []) (r := _) (z_MO_begin (o := o) (m_thrown := m_thrown) (m_taped := m_taped) (m_length := m_length) (m_out := m_out) (m_wide := m_wide) (m_gathered := m_gathered) (m_sets := m_sets) (m_ranges := m_ranges) (m_nodes := m_nodes) (m_at := ((m_at + 1) + 0)) (m_flags := m_flags) (m_fault := m_fault) (m_place := m_place) (m_numbered := m_numbered) (m_depth := m_depth) (m_value := m_value) (m_isNot := m_isNot) (m_least0 := m_least0) (m_most0 := m_most0) (m_slot := m_slot) (m_work := m_work) (m_got := m_got) (m_rowMany := m_rowMany) (m_charAt := m_charAt) (m_charWide := m_charWide) (m_trail := m_trail) (m_isMatch := m_isMatch) (m_matchGroups := m_matchGroups) (m_allFrom := m_allFrom) (m_allBefore := m_allBefore) (m_founds := m_founds) (m_pieces := m_pieces) (m_writtenMany := m_writtenMany) (m_templateWide := m_templateWide) (m_tooMuch := m_tooMuch) (LO := LO) (HI := HI) (MK := MK) h80 h93 h87 h88 (by omega) jmk (by omega)) (fun oc G2 h => by rcases h with ⟨_, h, _⟩ <;> exact ⟨_, h⟩) (by omega) m_MO_begin ml_MO_362 im_MO_begin se_MO_begin c_MO h80.2.2 (Nat.le_of_ble_eq_true rfl) d_MO_readClass_50 rfl ?_
    intro v G100 hq
    rcases hq with ⟨MK2101, hv, hfk, hlk, hsk, hN80, hN93, hq102, hq103⟩
    cases hv
    have h84 := hfk.get h84 (by decide)
    have h87 := hfk.get h87 (by decide)
    have h88 := hfk.get h88 (by decide)
    have h81 := hfk.get h81 (by decide)
    have h82 := hfk.get h82 (by decide)
    have h91 := hfk.get h91 (by decide)
    have h92 := hfk.get h92 (by decide)
    have h110 := hfk.get h110 (by decide)
    have h111 := hfk.get h111 (by decide)
    have ptrI_0 := trI.fr hfk ptrI_0 (by decide) (by decide) (by decide) (by decide) (by decide) (by decide) (by decide) (by decide) (by decide) (by decide) (by decide) (by decide) (by decide) (by decide) (by decide) (by decide) (by decide) (by decide)
    have hfr := hfr.tr hfk (by decide)
    have hlen := hlk.trans hlen
    have hsl := hsk.trans hsl
    have h80 := hN80
    have h93 := hN93
    change ab_W _ _ _ G100 53 [some (vR 80), some (vz m_at), some (vz 0), none] [] _
    refine zz_iconst d_MO_readClass_53 ?_
    refine ab_istore_n d_MO_readClass_54 (Nat.le_of_ble_eq_true rfl) (Nat.le_of_ble_eq_true rfl) rfl ?_
    change ab_W _ _ _ G100 55 [some (vR 80), some (vz m_at), some (vz 0), some (vz 0)] [] _
    refine y_MO_readClass_55 (m_thrown := m_thrown) (m_taped := m_taped) (m_length := m_length) (m_out := m_out) (m_sets := m_sets) (m_ranges := m_ranges) (m_nodes := m_nodes) (m_flags := m_flags) (m_numbered := m_numbered) (m_depth := m_depth) (m_least0 := m_least0) (m_most0 := m_most0) (m_slot := m_slot) (m_work := m_work) (m_got := m_got) (m_rowMany := m_rowMany) (m_charAt := m_charAt) (m_charWide := m_charWide) (m_trail := m_trail) (m_isMatch := m_isMatch) (m_matchGroups := m_matchGroups) (m_allFrom := m_allFrom) (m_allBefore := m_allBefore) (m_founds := m_founds) (m_pieces := m_pieces) (m_writtenMany := m_writtenMany) (m_templateWide := m_templateWide) (m_tooMuch := m_tooMuch) (A_tape := A_tape) (wh := m_at) (nt := 0) (a0 := ((m_at + 1) + 0)) (pl0 := m_place) (G0 := G100) (m_at := ((m_at + 1) + 0)) (m_fault := m_fault) (m_place := m_place) (m_value := m_value) (m_isNot := m_isNot) (m_wide := m_wide) (m_gathered := 0) (LO := LO) (HI := HI) (MK := MK2101) (P := (fun _ => False)) (bg := 0) (mq := 0) (ms := (m_taped + 2 - ((m_at + 1) + 0))) (by omega) (by omega) jtp (by omega) (by omega) (by omega) (Int.toNat (m_taped + 2 - ((m_at + 1) + 0)) + 1) h80 h84 h87 h88 h93 h81 h82 (by omega) (fun _ => by omega) hq102 (fun _ => hq103) (fun _ => lfc_0 (fun _ h => h)) (clH_0 (by omega) rfl (fun _ h => h)) (by omega) (by omega) fx.rf rfl rfl (by omega) (fun G104 a2105 f2106 p2107 v2108 nt2109 w2110 g2111 m2112 LO2113 HI2114 MK2115 P2116 hN80 hN87 hN88 hN93 hq117 hq118 hq119 hq120 hq121 hq122 hq123 hq124 hfk hlk hsk => ?_)
    · have h84 := hfk.get h84 (by decide)
      have h81 := hfk.get h81 (by decide)
      have h82 := hfk.get h82 (by decide)
      have h91 := hfk.get h91 (by decide)
      have h92 := hfk.get h92 (by decide)
      have h110 := hfk.get h110 (by decide)
      have h111 := hfk.get h111 (by decide)
      have ptrI_0 := trI.fr hfk ptrI_0 (by decide) (by decide) (by decide) (by decide) (by decide) (by decide) (by decide) (by decide) (by decide) (by decide) (by decide) (by decide) (by decide) (by decide) (by decide) (by decide) (by decide) (by decide)
      have hfr := hfr.tr hfk (by decide)
      have hlen := hlk.trans hlen
      have hsl := hsk.trans hsl
      have h80 := hN80
      have h87 := hN87
      have h88 := hN88
      have h93 := hN93
      change ab_W _ _ _ G104 102 [some (vR 80), some (vz m_at), some (vz 0), none] [] _
      refine ab_aload_n d_MO_readClass_102 rfl ?_
      refine ab_getf (fs := mof m_thrown m_taped m_length m_out w2110 g2111 m_sets m_ranges m_nodes a2105 m_flags f2106 p2107 m_numbered m_depth v2108 nt2109 m_least0 m_most0 m_slot m_work m_got m_rowMany m_charAt m_charWide m_trail m_isMatch m_matchGroups m_allFrom m_allBefore m_founds m_pieces m_writtenMany m_templateWide m_tooMuch) f_MO_273 d_MO_readClass_103 h80.2.2 rfl ?_
      refine zz_if_le (tgt := 110) d_MO_readClass_106 (by decide) (by omega) (fun c125 => ?_) (fun c125 => ?_)
      · have hcj_ := hq118 (by omega)
        have hcc_ := hq120 (by omega)
        have hll_ := hq121 (by omega)
        obtain ⟨K, O, Fi, Be, Le, Mo, Z, LZ, SM, SA, QF, QL, AF, AL, SD, OA, OF, ON, h94, h95, h96, h97, h98, h99, h100, h101, h90, h89, h105, h106, h107, h108, h109, h102, h103, h104, jk, jo, jfi, jbe, jle, jmo, jz, jlz, jsm, jsa, jqf, jql, jaf, jal, jsd, joa, jof, jon, jt, cnd, cre, crs, crz, ck5, ck6, ck7, jss, jsv⟩ := ptrI_0
        refine ab_aload_n d_MO_readClass_110 rfl ?_
        refine ab_dup d_MO_readClass_111 rfl ?_
        refine ab_getf (fs := mof m_thrown m_taped m_length m_out w2110 g2111 m_sets m_ranges m_nodes a2105 m_flags f2106 p2107 m_numbered m_depth v2108 nt2109 m_least0 m_most0 m_slot m_work m_got m_rowMany m_charAt m_charWide m_trail m_isMatch m_matchGroups m_allFrom m_allBefore m_founds m_pieces m_writtenMany m_templateWide m_tooMuch) f_MO_279 d_MO_readClass_112 h80.2.2 rfl ?_
        refine zz_iconst d_MO_readClass_115 ?_
        refine zz_iadd d_MO_readClass_116 ?_
        refine ab_putf (fs := mof m_thrown m_taped m_length m_out w2110 g2111 m_sets m_ranges m_nodes a2105 m_flags f2106 p2107 m_numbered m_depth v2108 nt2109 m_least0 m_most0 m_slot m_work m_got m_rowMany m_charAt m_charWide m_trail m_isMatch m_matchGroups m_allFrom m_allBefore m_founds m_pieces m_writtenMany m_templateWide m_tooMuch) f_MO_279 (Or.inl rfl) d_MO_readClass_117 h80.2.2 (Nat.le_of_ble_eq_true rfl) (fun _ => ⟨rfl, rfl⟩) (h80.2.1 (by decide)) ?_
        obtain ⟨G126, eG126⟩ : ∃ z : ab_G, z = List.set G104 80 (ab_ob 12 (mof m_thrown m_taped m_length m_out w2110 g2111 m_sets m_ranges m_nodes (a2105 + 1) m_flags f2106 p2107 m_numbered m_depth v2108 nt2109 m_least0 m_most0 m_slot m_work m_got m_rowMany m_charAt m_charWide m_trail m_isMatch m_matchGroups m_allFrom m_allBefore m_founds m_pieces m_writtenMany m_templateWide m_tooMuch)) := ⟨_, rfl⟩
        have h84 := h84.keep h80 eG126 (by decide)
        have h87 := h87.keep h80 eG126 (by decide)
        have h88 := h88.keep h80 eG126 (by decide)
        have h93 := h93.keep h80 eG126 (by decide)
        have h81 := h81.keep h80 eG126 (by decide)
        have h82 := h82.keep h80 eG126 (by decide)
        have h91 := h91.keep h80 eG126 (by decide)
        have h92 := h92.keep h80 eG126 (by decide)
        have h110 := h110.keep h80 eG126 (by decide)
        have h111 := h111.keep h80 eG126 (by decide)
        have h94 := h94.keep h80 eG126 (by decide)
        have h95 := h95.keep h80 eG126 (by decide)
        have h96 := h96.keep h80 eG126 (by decide)
        have h97 := h97.keep h80 eG126 (by decide)
        have h98 := h98.keep h80 eG126 (by decide)
        have h99 := h99.keep h80 eG126 (by decide)
        have h100 := h100.keep h80 eG126 (by decide)
        have h101 := h101.keep h80 eG126 (by decide)
        have h90 := h90.keep h80 eG126 (by decide)
        have h89 := h89.keep h80 eG126 (by decide)
        have h105 := h105.keep h80 eG126 (by decide)
        have h106 := h106.keep h80 eG126 (by decide)
        have h107 := h107.keep h80 eG126 (by decide)
        have h108 := h108.keep h80 eG126 (by decide)
        have h109 := h109.keep h80 eG126 (by decide)
        have h102 := h102.keep h80 eG126 (by decide)
        have h103 := h103.keep h80 eG126 (by decide)
        have h104 := h104.keep h80 eG126 (by decide)
        have hlen := (z_len eG126).trans hlen
        have hsl := (z_sl h80 eG126 rfl).trans hsl
        have hfr := hfr.wr h80 eG126 (by decide)
        have h80 := h80.kept eG126
        change ab_W _ _ _ (List.set G104 80 (ab_ob 12 (mof m_thrown m_taped m_length m_out w2110 g2111 m_sets m_ranges m_nodes (a2105 + 1) m_flags f2106 p2107 m_numbered m_depth v2108 nt2109 m_least0 m_most0 m_slot m_work m_got m_rowMany m_charAt m_charWide m_trail m_isMatch m_matchGroups m_allFrom m_allBefore m_founds m_pieces m_writtenMany m_templateWide m_tooMuch))) 120 [some (vR 80), some (vz m_at), some (vz 0), none] [] _
        rw [← eG126]
        refine ab_aload_n d_MO_readClass_120 rfl ?_
        refine ab_aload_n d_MO_readClass_121 rfl ?_
        refine ab_aload_n d_MO_readClass_122 rfl ?_
        refine ab_iload_n d_MO_readClass_123 rfl ?_
        refine ab_callV (d' := d - 1) (as := [vz 0]) (st := [vR 80, vR 80]) (r := _) (z_MO_close (o := o) (m_thrown := m_thrown) (m_taped := m_taped) (m_length := m_length) (m_out := m_out) (m_wide := w2110) (m_gathered := g2111) (m_sets := m_sets) (m_ranges := m_ranges) (m_nodes := m_nodes) (m_at := (a2105 + 1)) (m_flags := m_flags) (m_fault := f2106) (m_place := p2107) (m_numbered := m_numbered) (m_depth := m_depth) (m_value := v2108) (m_isNot := nt2109) (m_least0 := m_least0) (m_most0 := m_most0) (m_slot := m_slot) (m_work := m_work) (m_got := m_got) (m_rowMany := m_rowMany) (m_charAt := m_charAt) (m_charWide := m_charWide) (m_trail := m_trail) (m_isMatch := m_isMatch) (m_matchGroups := m_matchGroups) (m_allFrom := m_allFrom) (m_allBefore := m_allBefore) (m_founds := m_founds) (m_pieces := m_pieces) (m_writtenMany := m_writtenMany) (m_templateWide := m_templateWide) (m_tooMuch := m_tooMuch) (LO := LO2113) (HI := HI2114) (MK := MK2115) (RL := RL) (RH := RH) (SA := SA) (SM := SM) (P := P2116) (nt := 0) (mm := m2112) h80 h87 h88 h93 h91 h92 h89 h90 (by omega) hq119 (by omega) hcc_ hll_ jrl jrh (by omega)) (fun oc G2 h => by rcases h with ⟨_, _, _, _, _, _, h, _⟩ <;> exact ⟨_, h⟩) (by omega) m_MO_close ml_MO_368 im_MO_close se_MO_close c_MO h80.2.2 (Nat.le_of_ble_eq_true rfl) d_MO_readClass_124 rfl ?_
        intro v G127 hq
        rcases hq with ⟨g2128, r2129, LO2130, HI2131, RL2132, RH2133, hv, hfk, hlk, hsk, hN80, hN87, hN88, hN91, hN92, hN89, hN90, hq134, hq135, hq136, hq137, hq138⟩
        cases hv
        have h84 := hfk.get h84 (by decide)
        have h93 := hfk.get h93 (by decide)
        have h81 := hfk.get h81 (by decide)
        have h82 := hfk.get h82 (by decide)
        have h110 := hfk.get h110 (by decide)
        have h111 := hfk.get h111 (by decide)
        have h94 := hfk.get h94 (by decide)
        have h95 := hfk.get h95 (by decide)
        have h96 := hfk.get h96 (by decide)
        have h97 := hfk.get h97 (by decide)
        have h98 := hfk.get h98 (by decide)
        have h99 := hfk.get h99 (by decide)
        have h100 := hfk.get h100 (by decide)
        have h101 := hfk.get h101 (by decide)
        have h105 := hfk.get h105 (by decide)
        have h106 := hfk.get h106 (by decide)
        have h107 := hfk.get h107 (by decide)
        have h108 := hfk.get h108 (by decide)
        have h109 := hfk.get h109 (by decide)
        have h102 := hfk.get h102 (by decide)
        have h103 := hfk.get h103 (by decide)
        have h104 := hfk.get h104 (by decide)
        have hfr := hfr.tr hfk (by decide)
        have hlen := hlk.trans hlen
        have hsl := hsk.trans hsl
        have h80 := hN80
        have h87 := hN87
        have h88 := hN88
        have h91 := hN91
        have h92 := hN92
        have h89 := hN89
        have h90 := hN90
        change ab_W _ _ _ G127 127 [some (vR 80), some (vz m_at), some (vz 0), none] [vz m_sets, vR 80, vR 80] _
        refine zz_iconst d_MO_readClass_127 ?_
        refine ab_callV (d' := d - 1) (as := [vz m_sets, vz 0]) (st := [vR 80]) (r := _) (z_MO_setNode (o := o) (m_thrown := m_thrown) (m_taped := m_taped) (m_length := m_length) (m_out := m_out) (m_wide := w2110) (m_gathered := g2128) (m_sets := (m_sets + 1)) (m_ranges := r2129) (m_nodes := m_nodes) (m_at := (a2105 + 1)) (m_flags := m_flags) (m_fault := f2106) (m_place := p2107) (m_numbered := m_numbered) (m_depth := m_depth) (m_value := v2108) (m_isNot := nt2109) (m_least0 := m_least0) (m_most0 := m_most0) (m_slot := m_slot) (m_work := m_work) (m_got := m_got) (m_rowMany := m_rowMany) (m_charAt := m_charAt) (m_charWide := m_charWide) (m_trail := m_trail) (m_isMatch := m_isMatch) (m_matchGroups := m_matchGroups) (m_allFrom := m_allFrom) (m_allBefore := m_allBefore) (m_founds := m_founds) (m_pieces := m_pieces) (m_writtenMany := m_writtenMany) (m_templateWide := m_templateWide) (m_tooMuch := m_tooMuch) (K := K) (O := O) (Fi := Fi) (Be := Be) (Z := Z) (SM := (zu SM m_sets (r2129 - m_ranges))) (s := m_sets) (on := 0) h80 h90 h94 h95 h96 h97 h100 (by omega) (by omega) (rgs_zu jsm (by omega)) (by omega)) (fun oc G2 h => by rcases h with ⟨_, h, _⟩ <;> exact ⟨_, h⟩) (by omega) m_MO_setNode ml_MO_371 im_MO_setNode se_MO_setNode c_MO h80.2.2 (Nat.le_of_ble_eq_true rfl) d_MO_readClass_128 rfl ?_
        intro v G139 hq
        rcases hq with ⟨z2140, hv, hfk, hlk, hsk, hN80, hN94, hN95, hN96, hN97, hN100, hq141⟩
        cases hv
        have h84 := hfk.get h84 (by decide)
        have h87 := hfk.get h87 (by decide)
        have h88 := hfk.get h88 (by decide)
        have h93 := hfk.get h93 (by decide)
        have h81 := hfk.get h81 (by decide)
        have h82 := hfk.get h82 (by decide)
        have h91 := hfk.get h91 (by decide)
        have h92 := hfk.get h92 (by decide)
        have h110 := hfk.get h110 (by decide)
        have h111 := hfk.get h111 (by decide)
        have h98 := hfk.get h98 (by decide)
        have h99 := hfk.get h99 (by decide)
        have h101 := hfk.get h101 (by decide)
        have h90 := hfk.get h90 (by decide)
        have h89 := hfk.get h89 (by decide)
        have h105 := hfk.get h105 (by decide)
        have h106 := hfk.get h106 (by decide)
        have h107 := hfk.get h107 (by decide)
        have h108 := hfk.get h108 (by decide)
        have h109 := hfk.get h109 (by decide)
        have h102 := hfk.get h102 (by decide)
        have h103 := hfk.get h103 (by decide)
        have h104 := hfk.get h104 (by decide)
        have hfr := hfr.tr hfk (by decide)
        have hlen := hlk.trans hlen
        have hsl := hsk.trans hsl
        have h80 := hN80
        have h94 := hN94
        have h95 := hN95
        have h96 := hN96
        have h97 := hN97
        have h100 := hN100
        change ab_W _ _ _ G139 131 [some (vR 80), some (vz m_at), some (vz 0), none] [vz m_nodes, vR 80] _
        have hsz_ : zu SM m_sets (r2129 - m_ranges) m_sets = (r2129 - m_ranges) := zu_self _ _ _
        have ptrI_0 : trI o G139 0 (m_nodes + 1) (m_sets + 1) (m_depth + 1) m_nodes 0 6 ((a1_, b1_, c1_, d1_, e1_) :: t1_) rp ls z2140 (fun s => if s = m_sets then (clno 0 P2116) else SV s) ((ao1_, ro1_) :: ts1_) ro vv (mnS (clno 0 P2116)) RL2132 RH2133 r2129 0 0 := ⟨(zu K m_nodes 1), (zu O m_nodes m_sets), (zu Fi m_nodes (-1)), (zu Be m_nodes (-1)), Le, Mo, (zu Z m_nodes z2140), LZ, (zu SM m_sets (r2129 - m_ranges)), (zu SA m_sets m_ranges), QF, QL, AF, AL, SD, OA, OF, ON, h94, h95, h96, h97, h98, h99, h100, h101, h90, h89, h105, h106, h107, h108, h109, h102, h103, h104, (rgs_zu jk (by omega)), (rgs_zu jo (by omega)), (rgs_zu jfi (by omega)), (rgs_zu jbe (by omega)), jle, jmo, (rgs_zu jz (by omega)), jlz, (rgs_zu jsm (by omega)), (rgs_zu jsa (by omega)), jqf, jql, jaf, jal, jsd, joa, jof, jon, (rtk_leaf (rtk_ns (S := (clno 0 P2116)) jt) (by omega) (Or.inr (Or.inl ⟨rfl, by omega, by omega, by omega, by rw [zu_self]; omega⟩)) (Or.inr (Or.inl ⟨rfl, mnS_ns (SV := SV)⟩))), (by omega), (fun h => absurd h (by decide)), (fun h => absurd h (by decide)), (fun h => absurd h (by decide)), (fun h => absurd h (by decide)), (fun _ => by rw [zu_self]; decide), (fun h => absurd h (by decide)), (sas_s jss (by omega)), (svR_s jsv hq138.1 hq138.2 hq137 (by omega))⟩
        refine zz_iconst d_MO_readClass_131 ?_
        refine ab_callV (d' := d - 1) (as := [vz m_nodes, vz 1]) (st := []) (r := _) (z1_MO_part (o := o) (m_thrown := m_thrown) (m_taped := m_taped) (m_length := m_length) (m_out := m_out) (m_wide := w2110) (m_gathered := g2128) (m_sets := (m_sets + 1)) (m_ranges := r2129) (m_nodes := (m_nodes + 1)) (m_at := (a2105 + 1)) (m_flags := m_flags) (m_fault := f2106) (m_place := p2107) (m_numbered := m_numbered) (m_depth := m_depth) (m_value := v2108) (m_isNot := nt2109) (m_least0 := m_least0) (m_most0 := m_most0) (m_slot := m_slot) (m_work := m_work) (m_got := m_got) (m_rowMany := m_rowMany) (m_charAt := m_charAt) (m_charWide := m_charWide) (m_trail := m_trail) (m_isMatch := m_isMatch) (m_matchGroups := m_matchGroups) (m_allFrom := m_allFrom) (m_allBefore := m_allBefore) (m_founds := m_founds) (m_pieces := m_pieces) (m_writtenMany := m_writtenMany) (m_templateWide := m_templateWide) (m_tooMuch := m_tooMuch) (x := m_nodes) (dh := 0) (rp := rp) (ls := ls) (dz := z2140) (SV := (fun s => if s = m_sets then (clno 0 P2116) else SV s)) (ro := ro) (vv := vv) (dv := (mnS (clno 0 P2116))) (a1_ := a1_) (b1_ := b1_) (c1_ := c1_) (d1_ := d1_) (e1_ := e1_) (nu9 := 0) (fo9 := 0) (t1_ := t1_) (ao1_ := ao1_) (ro1_ := ro1_) (ts1_ := ts1_) (RL := RL2132) (RH := RH2133) h80 ptrI_0 (by omega) (by omega) (by omega) (by omega)) (fun oc G2 h => by rcases h with ⟨h, _⟩ <;> exact ⟨_, h⟩) (by omega) m_MO_part ml_MO_375 im_MO_part se_MO_part c_MO h80.2.2 (Nat.le_of_ble_eq_true rfl) d_MO_readClass_132 rfl ?_
        intro v G142 hq
        rcases hq with ⟨hv, hfk, hlk, hsk, pNtrI_0⟩
        cases hv
        have h80 := hfk.get h80 (by decide)
        have h84 := hfk.get h84 (by decide)
        have h87 := hfk.get h87 (by decide)
        have h88 := hfk.get h88 (by decide)
        have h93 := hfk.get h93 (by decide)
        have h81 := hfk.get h81 (by decide)
        have h82 := hfk.get h82 (by decide)
        have h91 := hfk.get h91 (by decide)
        have h92 := hfk.get h92 (by decide)
        have h110 := hfk.get h110 (by decide)
        have h111 := hfk.get h111 (by decide)
        have ptrI_0 := pNtrI_0
        have hfr := hfr.tr hfk (by decide)
        have hlen := hlk.trans hlen
        have hsl := hsk.trans hsl
        change ab_W _ _ _ G142 135 [some (vR 80), some (vz m_at), some (vz 0), none] [] _
        exfalso; omega
      · refine ab_vret rfl d_MO_readClass_109 ?_
        rw [hQ]; exact (Or.inr ⟨_, _, _, _, _, _, _, _, _, _, rfl, hfr, hlen, hsl, h80, h87, h88, h93, h91, h92, h110, h111, ptrI_0, (by omega), (by first | exact hq119 | exact rgs_w hq119 (by omega)), (by exact Or.inr (Or.inl ⟨by omega, 0, ((m_at + 1) + 0), (by unfold clb; omega), clH_w hq122 (by omega)⟩))⟩)
