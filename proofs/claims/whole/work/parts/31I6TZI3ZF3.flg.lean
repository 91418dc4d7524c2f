set_option maxRecDepth 100000 in
set_option maxHeartbeats 4000000 in
theorem y_MO_readGroup_56 {X : ab_X} {d : Nat} {Q : Outcome → ab_G → Prop} {o : Nat → Nat} {G0 : ab_G} {m_thrown : Int} {m_taped : Int} {m_length : Int} {m_out : Int} {m_wide : Int} {m_gathered : Int} {m_sets : Int} {m_ranges : Int} {m_nodes : Int} {m_at : Int} {m_flags : Int} {m_fault : Int} {m_place : Int} {m_numbered : Int} {m_depth : Int} {m_value : Int} {m_isNot : Int} {m_least0 : Int} {m_most0 : Int} {m_slot : Int} {m_work : Int} {m_got : Int} {m_rowMany : Int} {m_charAt : Int} {m_charWide : Int} {m_trail : Int} {m_isMatch : Int} {m_matchGroups : Int} {m_allFrom : Int} {m_allBefore : Int} {m_founds : Int} {m_pieces : Int} {m_writtenMany : Int} {m_templateWide : Int} {m_tooMuch : Int} {A_tape : Int → Int} {wh : Int} {r0 : Option (Int × Int × Int × Int)} (cta : 0 ≤ m_taped ∧ m_taped ≤ 2000) (jtp : rgs A_tape 2000 0 255) (cat : 0 ≤ m_at ∧ m_at < m_taped) (cfl : 0 ≤ m_flags ∧ m_flags ≤ 15) (hd : 1 ≤ d) : ∀ (mz : Nat) {G : ab_G} {nw : Int} {k : Int} {on : Int} {kr : Nat}, (cc o G 80 280 (ab_ob 12 (mof m_thrown m_taped m_length m_out m_wide m_gathered m_sets m_ranges m_nodes m_at m_flags m_fault m_place m_numbered m_depth m_value m_isNot m_least0 m_most0 m_slot m_work m_got m_rowMany m_charAt m_charWide m_trail m_isMatch m_matchGroups m_allFrom m_allBefore m_founds m_pieces m_writtenMany m_templateWide m_tooMuch))) → (cc o G 84 284 (za 2000 A_tape)) → (2 ≤ k ∧ m_at + k ≤ m_taped ∧ 0 ≤ nw ∧ nw ≤ 15 ∧ 0 ≤ on ∧ on ≤ 15 ∧ ↑kr = m_taped + 5 - k) → (nw = flor m_flags on) → (r0 = flgS A_tape m_taped kr (m_at + k) on 0 0) → (fx o o [] G0 G) → (G.length = G0.length) → (ab_slots G = ab_slots G0) → (Int.toNat (m_taped - m_at - k) < mz) → (∀ (G2 : ab_G) (nw2 : Int) (k2 : Int) (on2 : Int) (kr2 : Nat), (2 ≤ k2 ∧ m_at + k2 ≤ m_taped ∧ 0 ≤ nw2 ∧ nw2 ≤ 15 ∧ 0 ≤ on2 ∧ on2 ≤ 15 ∧ ↑kr2 = m_taped + 5 - k2) → (nw2 = flor m_flags on2) → (r0 = flgS A_tape m_taped kr2 (m_at + k2) on2 0 0) → (fof (tpk A_tape m_taped (m_at + k2)) = 0) → (fx o o [] G0 G2) → (G2.length = G0.length) → (ab_slots G2 = ab_slots G0) → ab_W X (ab_pl y_MO_readGroup b_MO_readGroup 5 none) d G2 84 [some (vR 80), some (vz wh), some (vz nw2), some (vz k2), none] [] Q) → ab_W X (ab_pl y_MO_readGroup b_MO_readGroup 5 none) d G 56 [some (vR 80), some (vz wh), some (vz nw), some (vz k), none] [] Q := by
  intro mz
  induction mz with
  | zero => intro G nw k on kr h80 h84 ci hnw hfs hfr hlen hsl hm hk0; exact absurd hm (Nat.not_lt_zero _)
  | succ mz ih =>
    intro G nw k on kr h80 h84 ci hnw hfs hfr hlen hsl hm hk0
    obtain ⟨kq1, hkq1⟩ : ∃ z : Nat, kr = z + 1 := ⟨kr - 1, by omega⟩
    have hf9_ := fof_15 (tpk A_tape m_taped (m_at + k))
    refine ab_aload_n d_MO_readGroup_56 rfl ?_
    refine ab_iload_n d_MO_readGroup_57 rfl ?_
    refine ab_callV (d' := d - 1) (as := [vz k]) (st := []) (r := _) (z_MO_here (o := o) (m_thrown := m_thrown) (m_taped := m_taped) (m_length := m_length) (m_out := m_out) (m_wide := m_wide) (m_gathered := m_gathered) (m_sets := m_sets) (m_ranges := m_ranges) (m_nodes := m_nodes) (m_at := m_at) (m_flags := m_flags) (m_fault := m_fault) (m_place := m_place) (m_numbered := m_numbered) (m_depth := m_depth) (m_value := m_value) (m_isNot := m_isNot) (m_least0 := m_least0) (m_most0 := m_most0) (m_slot := m_slot) (m_work := m_work) (m_got := m_got) (m_rowMany := m_rowMany) (m_charAt := m_charAt) (m_charWide := m_charWide) (m_trail := m_trail) (m_isMatch := m_isMatch) (m_matchGroups := m_matchGroups) (m_allFrom := m_allFrom) (m_allBefore := m_allBefore) (m_founds := m_founds) (m_pieces := m_pieces) (m_writtenMany := m_writtenMany) (m_templateWide := m_templateWide) (m_tooMuch := m_tooMuch) (A_tape := A_tape) (k := k) (qh := (m_at + k)) h80 h84 (by omega) (by omega) jtp (by omega) (by omega)) (fun oc G2 h => by rcases h with ⟨h, _⟩ | ⟨h, _⟩ <;> exact ⟨_, h⟩) (by omega) m_MO_here ml_MO_297 im_MO_here se_MO_here c_MO h80.2.2 (Nat.le_of_ble_eq_true rfl) d_MO_readGroup_58 rfl ?_
    intro v G1 hq
    rcases hq with ⟨hv, hGe, hq2⟩ | ⟨hv, hGe, hq3, hq4⟩
    · cases hv
      rw [hGe]
      change ab_W _ _ _ G 61 [some (vR 80), some (vz wh), some (vz nw), some (vz k), none] [vz (tpk A_tape m_taped (m_at + k))] _
      refine ab_callS (d' := d - 1) (as := [vz (tpk A_tape m_taped (m_at + k))]) (st := []) (z_MO_flagOf (o := o) (c := (tpk A_tape m_taped (m_at + k))) (by omega)) (fun oc G2 h => by rcases h with ⟨_, h, _⟩ <;> exact ⟨_, h⟩) (by omega) m_MO_flagOf ml_MO_389 st_MO_flagOf (Nat.le_of_ble_eq_true rfl) d_MO_readGroup_61 rfl ?_
      intro v G5 hq
      rcases hq with ⟨v6, hv, hGe, hq7, hq8, hq9, hq10⟩
      cases hv
      rw [hGe]
      change ab_W _ _ _ G 64 [some (vR 80), some (vz wh), some (vz nw), some (vz k), none] [vz v6] _
      refine zz_if_le (tgt := 84) d_MO_readGroup_64 (by decide) (by omega) (fun c11 => ?_) (fun c11 => ?_)
      · exact hk0 _ _ _ on kr (by omega) (by exact hnw) (by exact hfs) (by rw [← hq10]; omega) hfr hlen hsl
      · refine ab_iload_n d_MO_readGroup_67 rfl ?_
        refine ab_aload_n d_MO_readGroup_68 rfl ?_
        refine ab_iload_n d_MO_readGroup_69 rfl ?_
        refine ab_callV (d' := d - 1) (as := [vz k]) (st := [vz nw]) (r := _) (z_MO_here (o := o) (m_thrown := m_thrown) (m_taped := m_taped) (m_length := m_length) (m_out := m_out) (m_wide := m_wide) (m_gathered := m_gathered) (m_sets := m_sets) (m_ranges := m_ranges) (m_nodes := m_nodes) (m_at := m_at) (m_flags := m_flags) (m_fault := m_fault) (m_place := m_place) (m_numbered := m_numbered) (m_depth := m_depth) (m_value := m_value) (m_isNot := m_isNot) (m_least0 := m_least0) (m_most0 := m_most0) (m_slot := m_slot) (m_work := m_work) (m_got := m_got) (m_rowMany := m_rowMany) (m_charAt := m_charAt) (m_charWide := m_charWide) (m_trail := m_trail) (m_isMatch := m_isMatch) (m_matchGroups := m_matchGroups) (m_allFrom := m_allFrom) (m_allBefore := m_allBefore) (m_founds := m_founds) (m_pieces := m_pieces) (m_writtenMany := m_writtenMany) (m_templateWide := m_templateWide) (m_tooMuch := m_tooMuch) (A_tape := A_tape) (k := k) (qh := (m_at + k)) h80 h84 (by omega) (by omega) jtp (by omega) (by omega)) (fun oc G2 h => by rcases h with ⟨h, _⟩ | ⟨h, _⟩ <;> exact ⟨_, h⟩) (by omega) m_MO_here ml_MO_297 im_MO_here se_MO_here c_MO h80.2.2 (Nat.le_of_ble_eq_true rfl) d_MO_readGroup_70 rfl ?_
        intro v G12 hq
        rcases hq with ⟨hv, hGe, hq13⟩ | ⟨hv, hGe, hq14, hq15⟩
        · cases hv
          rw [hGe]
          change ab_W _ _ _ G 73 [some (vR 80), some (vz wh), some (vz nw), some (vz k), none] [vz (tpk A_tape m_taped (m_at + k)), vz nw] _
          refine ab_callS (d' := d - 1) (as := [vz (tpk A_tape m_taped (m_at + k))]) (st := [vz nw]) (z_MO_flagOf (o := o) (c := (tpk A_tape m_taped (m_at + k))) (by omega)) (fun oc G2 h => by rcases h with ⟨_, h, _⟩ <;> exact ⟨_, h⟩) (by omega) m_MO_flagOf ml_MO_389 st_MO_flagOf (Nat.le_of_ble_eq_true rfl) d_MO_readGroup_73 rfl ?_
          intro v G16 hq
          rcases hq with ⟨v17, hv, hGe, hq18, hq19, hq20, hq21⟩
          cases hv
          rw [hGe]
          change ab_W _ _ _ G 76 [some (vR 80), some (vz wh), some (vz nw), some (vz k), none] [vz v17, vz nw] _
          refine zz_top (y := (fof (tpk A_tape m_taped (m_at + k)))) (by omega) ?_
          refine zz_orE d_MO_readGroup_76 (by omega) (by omega) ?_
          have hfl22 := flor16 (x := nw) (y := (fof (tpk A_tape m_taped (m_at + k)))) (by omega) (by omega)
          have hfl22b := flor16 (x := on) (y := (fof (tpk A_tape m_taped (m_at + k)))) (by omega) (by omega)
          change ab_W _ _ _ G 77 [some (vR 80), some (vz wh), some (vz nw), some (vz k), none] [vz (flor nw (fof (tpk A_tape m_taped (m_at + k))))] _
          refine ab_istore_n d_MO_readGroup_77 (Nat.le_of_ble_eq_true rfl) (Nat.le_of_ble_eq_true rfl) rfl ?_
          change ab_W _ _ _ G 78 [some (vR 80), some (vz wh), some (vz (flor nw (fof (tpk A_tape m_taped (m_at + k))))), some (vz k), none] [] _
          refine zz_iinc d_MO_readGroup_78 rfl (Nat.le_of_ble_eq_true rfl) (Nat.le_of_ble_eq_true rfl) rfl ?_
          change ab_W _ _ _ G 81 [some (vR 80), some (vz wh), some (vz (flor nw (fof (tpk A_tape m_taped (m_at + k))))), some (vz (k + 1)), none] [] _
          refine ab_goto (tgt := 56) d_MO_readGroup_81 (by decide) ?_
          exact ih (nw := (flor nw (fof (tpk A_tape m_taped (m_at + k))))) (k := (k + 1)) (on := (flor on (fof (tpk A_tape m_taped (m_at + k))))) (kr := kq1) h80 h84 (by omega) (by rw [hnw, flor_as (by omega) (by omega) (by omega)]) (by have t_ := flgS_on hfs hkq1 (fun z => by have t_ : fof (tpk A_tape m_taped (m_at + k)) = 0 := (by rcases z with z | z; (rw [z]; rfl); (rw [z]; rfl)); omega) (by rw [← hq21]; omega) (by decide); rw [show m_at + k + 1 = m_at + (k + 1) by omega] at t_; exact t_) hfr hlen hsl (by omega) hk0
        · cases hv
          rw [hGe]
          change ab_W _ _ _ G 73 [some (vR 80), some (vz wh), some (vz nw), some (vz k), none] [vz (-1), vz nw] _
          exfalso; omega
    · cases hv
      rw [hGe]
      change ab_W _ _ _ G 61 [some (vR 80), some (vz wh), some (vz nw), some (vz k), none] [vz (-1)] _
      refine ab_callS (d' := d - 1) (as := [vz (-1)]) (st := []) (z_MO_flagOf (o := o) (c := (-1)) (by omega)) (fun oc G2 h => by rcases h with ⟨_, h, _⟩ <;> exact ⟨_, h⟩) (by omega) m_MO_flagOf ml_MO_389 st_MO_flagOf (Nat.le_of_ble_eq_true rfl) d_MO_readGroup_61 rfl ?_
      intro v G23 hq
      rcases hq with ⟨v24, hv, hGe, hq25, hq26, hq27, hq28⟩
      cases hv
      rw [hGe]
      change ab_W _ _ _ G 64 [some (vR 80), some (vz wh), some (vz nw), some (vz k), none] [vz v24] _
      have hf029 : v24 = 0 := hq28.trans (by decide)
      have hf029b : fof (tpk A_tape m_taped (m_at + k)) = 0 := by rw [show tpk A_tape m_taped (m_at + k) = -1 by omega]; rfl
      refine zz_if_le (tgt := 84) d_MO_readGroup_64 (by decide) (by omega) (fun c30 => ?_) (fun c30 => absurd c30 (by omega))
      exact hk0 _ _ _ on kr (by omega) (by exact hnw) (by exact hfs) (by first | omega | (rw [show tpk A_tape m_taped (m_at + k) = -1 by omega]; rfl)) hfr hlen hsl
set_option maxRecDepth 100000 in
set_option maxHeartbeats 4000000 in
theorem y_MO_readGroup_115 {X : ab_X} {d : Nat} {Q : Outcome → ab_G → Prop} {o : Nat → Nat} {G0 : ab_G} {m_thrown : Int} {m_taped : Int} {m_length : Int} {m_out : Int} {m_wide : Int} {m_gathered : Int} {m_sets : Int} {m_ranges : Int} {m_nodes : Int} {m_at : Int} {m_flags : Int} {m_fault : Int} {m_place : Int} {m_numbered : Int} {m_depth : Int} {m_value : Int} {m_isNot : Int} {m_least0 : Int} {m_most0 : Int} {m_slot : Int} {m_work : Int} {m_got : Int} {m_rowMany : Int} {m_charAt : Int} {m_charWide : Int} {m_trail : Int} {m_isMatch : Int} {m_matchGroups : Int} {m_allFrom : Int} {m_allBefore : Int} {m_founds : Int} {m_pieces : Int} {m_writtenMany : Int} {m_templateWide : Int} {m_tooMuch : Int} {A_tape : Int → Int} {wh : Int} {on : Int} {fb : Int} {r0 : Option (Int × Int × Int × Int)} (cta : 0 ≤ m_taped ∧ m_taped ≤ 2000) (jtp : rgs A_tape 2000 0 255) (cat : 0 ≤ m_at ∧ m_at < m_taped) (con : 0 ≤ on ∧ on ≤ 15) (cfl : 0 ≤ m_flags ∧ m_flags ≤ 15) (hd : 1 ≤ d) : ∀ (mz : Nat) {G : ab_G} {nw : Int} {k : Int} {of : Int} {kr : Nat}, (cc o G 80 280 (ab_ob 12 (mof m_thrown m_taped m_length m_out m_wide m_gathered m_sets m_ranges m_nodes m_at m_flags m_fault m_place m_numbered m_depth m_value m_isNot m_least0 m_most0 m_slot m_work m_got m_rowMany m_charAt m_charWide m_trail m_isMatch m_matchGroups m_allFrom m_allBefore m_founds m_pieces m_writtenMany m_templateWide m_tooMuch))) → (cc o G 84 284 (za 2000 A_tape)) → (2 ≤ k ∧ m_at + k ≤ m_taped ∧ 0 ≤ nw ∧ nw ≤ 15 ∧ 0 ≤ of ∧ of ≤ 15 ∧ ↑kr = m_taped + 5 - k) → (nw = fland (flor m_flags on) of) → (r0 = flgS A_tape m_taped kr (m_at + k) on of 1) → ((fb = 0 ∧ of = 0 ∧ fof (tpk A_tape m_taped (m_at + k)) = 0) ∨ (fb = 1 ∧ (¬ of = 0 ∨ 0 < fof (tpk A_tape m_taped (m_at + k))))) → (fx o o [] G0 G) → (G.length = G0.length) → (ab_slots G = ab_slots G0) → (Int.toNat (m_taped - m_at - k) < mz) → (∀ (G2 : ab_G) (nw2 : Int) (k2 : Int) (of2 : Int) (kr2 : Nat), (2 ≤ k2 ∧ m_at + k2 ≤ m_taped ∧ 0 ≤ nw2 ∧ nw2 ≤ 15 ∧ 0 ≤ of2 ∧ of2 ≤ 15 ∧ ↑kr2 = m_taped + 5 - k2) → (nw2 = fland (flor m_flags on) of2) → (r0 = flgS A_tape m_taped kr2 (m_at + k2) on of2 1) → (fof (tpk A_tape m_taped (m_at + k2)) = 0) → ((fb = 0 ∧ of2 = 0) ∨ (fb = 1 ∧ ¬ of2 = 0)) → (fx o o [] G0 G2) → (G2.length = G0.length) → (ab_slots G2 = ab_slots G0) → ab_W X (ab_pl y_MO_readGroup b_MO_readGroup 5 none) d G2 145 [some (vR 80), some (vz wh), some (vz nw2), some (vz k2), none] [] Q) → ab_W X (ab_pl y_MO_readGroup b_MO_readGroup 5 none) d G 115 [some (vR 80), some (vz wh), some (vz nw), some (vz k), none] [] Q := by
  intro mz
  induction mz with
  | zero => intro G nw k of kr h80 h84 ci hnw hfs hof hfr hlen hsl hm hk0; exact absurd hm (Nat.not_lt_zero _)
  | succ mz ih =>
    intro G nw k of kr h80 h84 ci hnw hfs hof hfr hlen hsl hm hk0
    obtain ⟨kq1, hkq1⟩ : ∃ z : Nat, kr = z + 1 := ⟨kr - 1, by omega⟩
    have hf9_ := fof_15 (tpk A_tape m_taped (m_at + k))
    refine ab_aload_n d_MO_readGroup_115 rfl ?_
    refine ab_iload_n d_MO_readGroup_116 rfl ?_
    refine ab_callV (d' := d - 1) (as := [vz k]) (st := []) (r := _) (z_MO_here (o := o) (m_thrown := m_thrown) (m_taped := m_taped) (m_length := m_length) (m_out := m_out) (m_wide := m_wide) (m_gathered := m_gathered) (m_sets := m_sets) (m_ranges := m_ranges) (m_nodes := m_nodes) (m_at := m_at) (m_flags := m_flags) (m_fault := m_fault) (m_place := m_place) (m_numbered := m_numbered) (m_depth := m_depth) (m_value := m_value) (m_isNot := m_isNot) (m_least0 := m_least0) (m_most0 := m_most0) (m_slot := m_slot) (m_work := m_work) (m_got := m_got) (m_rowMany := m_rowMany) (m_charAt := m_charAt) (m_charWide := m_charWide) (m_trail := m_trail) (m_isMatch := m_isMatch) (m_matchGroups := m_matchGroups) (m_allFrom := m_allFrom) (m_allBefore := m_allBefore) (m_founds := m_founds) (m_pieces := m_pieces) (m_writtenMany := m_writtenMany) (m_templateWide := m_templateWide) (m_tooMuch := m_tooMuch) (A_tape := A_tape) (k := k) (qh := (m_at + k)) h80 h84 (by omega) (by omega) jtp (by omega) (by omega)) (fun oc G2 h => by rcases h with ⟨h, _⟩ | ⟨h, _⟩ <;> exact ⟨_, h⟩) (by omega) m_MO_here ml_MO_297 im_MO_here se_MO_here c_MO h80.2.2 (Nat.le_of_ble_eq_true rfl) d_MO_readGroup_117 rfl ?_
    intro v G1 hq
    rcases hq with ⟨hv, hGe, hq2⟩ | ⟨hv, hGe, hq3, hq4⟩
    · cases hv
      rw [hGe]
      change ab_W _ _ _ G 120 [some (vR 80), some (vz wh), some (vz nw), some (vz k), none] [vz (tpk A_tape m_taped (m_at + k))] _
      refine ab_callS (d' := d - 1) (as := [vz (tpk A_tape m_taped (m_at + k))]) (st := []) (z_MO_flagOf (o := o) (c := (tpk A_tape m_taped (m_at + k))) (by omega)) (fun oc G2 h => by rcases h with ⟨_, h, _⟩ <;> exact ⟨_, h⟩) (by omega) m_MO_flagOf ml_MO_389 st_MO_flagOf (Nat.le_of_ble_eq_true rfl) d_MO_readGroup_120 rfl ?_
      intro v G5 hq
      rcases hq with ⟨v6, hv, hGe, hq7, hq8, hq9, hq10⟩
      cases hv
      rw [hGe]
      change ab_W _ _ _ G 123 [some (vR 80), some (vz wh), some (vz nw), some (vz k), none] [vz v6] _
      refine zz_if_le (tgt := 145) d_MO_readGroup_123 (by decide) (by omega) (fun c11 => ?_) (fun c11 => ?_)
      · exact hk0 _ _ _ of kr (by omega) (by exact hnw) (by exact hfs) (by rw [← hq10]; omega) (by omega) hfr hlen hsl
      · refine ab_iload_n d_MO_readGroup_126 rfl ?_
        refine ab_aload_n d_MO_readGroup_127 rfl ?_
        refine ab_iload_n d_MO_readGroup_128 rfl ?_
        refine ab_callV (d' := d - 1) (as := [vz k]) (st := [vz nw]) (r := _) (z_MO_here (o := o) (m_thrown := m_thrown) (m_taped := m_taped) (m_length := m_length) (m_out := m_out) (m_wide := m_wide) (m_gathered := m_gathered) (m_sets := m_sets) (m_ranges := m_ranges) (m_nodes := m_nodes) (m_at := m_at) (m_flags := m_flags) (m_fault := m_fault) (m_place := m_place) (m_numbered := m_numbered) (m_depth := m_depth) (m_value := m_value) (m_isNot := m_isNot) (m_least0 := m_least0) (m_most0 := m_most0) (m_slot := m_slot) (m_work := m_work) (m_got := m_got) (m_rowMany := m_rowMany) (m_charAt := m_charAt) (m_charWide := m_charWide) (m_trail := m_trail) (m_isMatch := m_isMatch) (m_matchGroups := m_matchGroups) (m_allFrom := m_allFrom) (m_allBefore := m_allBefore) (m_founds := m_founds) (m_pieces := m_pieces) (m_writtenMany := m_writtenMany) (m_templateWide := m_templateWide) (m_tooMuch := m_tooMuch) (A_tape := A_tape) (k := k) (qh := (m_at + k)) h80 h84 (by omega) (by omega) jtp (by omega) (by omega)) (fun oc G2 h => by rcases h with ⟨h, _⟩ | ⟨h, _⟩ <;> exact ⟨_, h⟩) (by omega) m_MO_here ml_MO_297 im_MO_here se_MO_here c_MO h80.2.2 (Nat.le_of_ble_eq_true rfl) d_MO_readGroup_129 rfl ?_
        intro v G12 hq
        rcases hq with ⟨hv, hGe, hq13⟩ | ⟨hv, hGe, hq14, hq15⟩
        · cases hv
          rw [hGe]
          change ab_W _ _ _ G 132 [some (vR 80), some (vz wh), some (vz nw), some (vz k), none] [vz (tpk A_tape m_taped (m_at + k)), vz nw] _
          refine ab_callS (d' := d - 1) (as := [vz (tpk A_tape m_taped (m_at + k))]) (st := [vz nw]) (z_MO_flagOf (o := o) (c := (tpk A_tape m_taped (m_at + k))) (by omega)) (fun oc G2 h => by rcases h with ⟨_, h, _⟩ <;> exact ⟨_, h⟩) (by omega) m_MO_flagOf ml_MO_389 st_MO_flagOf (Nat.le_of_ble_eq_true rfl) d_MO_readGroup_132 rfl ?_
          intro v G16 hq
          rcases hq with ⟨v17, hv, hGe, hq18, hq19, hq20, hq21⟩
          cases hv
          rw [hGe]
          change ab_W _ _ _ G 135 [some (vR 80), some (vz wh), some (vz nw), some (vz k), none] [vz v17, vz nw] _
          refine zz_top (y := (fof (tpk A_tape m_taped (m_at + k)))) (by omega) ?_
          refine zz_iconst d_MO_readGroup_135 ?_
          refine zz_not32 d_MO_readGroup_136 (by omega) ?_
          refine zz_andE d_MO_readGroup_137 (by omega) (by omega) ?_
          have hfl22 := fland15 (x := nw) (y := (fof (tpk A_tape m_taped (m_at + k)))) (by omega)
          have hfl22b := flor16 (x := of) (y := (fof (tpk A_tape m_taped (m_at + k)))) (by omega) (by omega)
          change ab_W _ _ _ G 138 [some (vR 80), some (vz wh), some (vz nw), some (vz k), none] [vz (fland nw (fof (tpk A_tape m_taped (m_at + k))))] _
          refine ab_istore_n d_MO_readGroup_138 (Nat.le_of_ble_eq_true rfl) (Nat.le_of_ble_eq_true rfl) rfl ?_
          change ab_W _ _ _ G 139 [some (vR 80), some (vz wh), some (vz (fland nw (fof (tpk A_tape m_taped (m_at + k))))), some (vz k), none] [] _
          refine zz_iinc d_MO_readGroup_139 rfl (Nat.le_of_ble_eq_true rfl) (Nat.le_of_ble_eq_true rfl) rfl ?_
          change ab_W _ _ _ G 142 [some (vR 80), some (vz wh), some (vz (fland nw (fof (tpk A_tape m_taped (m_at + k))))), some (vz (k + 1)), none] [] _
          refine ab_goto (tgt := 115) d_MO_readGroup_142 (by decide) ?_
          exact ih (nw := (fland nw (fof (tpk A_tape m_taped (m_at + k))))) (k := (k + 1)) (of := (flor of (fof (tpk A_tape m_taped (m_at + k))))) (kr := kq1) h80 h84 (by omega) (by rw [hnw, fland_or]) (by have t_ := flgS_off hfs hkq1 (fun z => by have t_ : fof (tpk A_tape m_taped (m_at + k)) = 0 := (by rcases z with z | z; (rw [z]; rfl); (rw [z]; rfl)); omega) (by rw [← hq21]; omega) rfl; rw [show m_at + k + 1 = m_at + (k + 1) by omega] at t_; exact t_) (by right; refine ⟨by omega, Or.inl (flor_nz (by omega))⟩) hfr hlen hsl (by omega) hk0
        · cases hv
          rw [hGe]
          change ab_W _ _ _ G 132 [some (vR 80), some (vz wh), some (vz nw), some (vz k), none] [vz (-1), vz nw] _
          exfalso; omega
    · cases hv
      rw [hGe]
      change ab_W _ _ _ G 120 [some (vR 80), some (vz wh), some (vz nw), some (vz k), none] [vz (-1)] _
      refine ab_callS (d' := d - 1) (as := [vz (-1)]) (st := []) (z_MO_flagOf (o := o) (c := (-1)) (by omega)) (fun oc G2 h => by rcases h with ⟨_, h, _⟩ <;> exact ⟨_, h⟩) (by omega) m_MO_flagOf ml_MO_389 st_MO_flagOf (Nat.le_of_ble_eq_true rfl) d_MO_readGroup_120 rfl ?_
      intro v G23 hq
      rcases hq with ⟨v24, hv, hGe, hq25, hq26, hq27, hq28⟩
      cases hv
      rw [hGe]
      change ab_W _ _ _ G 123 [some (vR 80), some (vz wh), some (vz nw), some (vz k), none] [vz v24] _
      have hf029 : v24 = 0 := hq28.trans (by decide)
      have hf029b : fof (tpk A_tape m_taped (m_at + k)) = 0 := by rw [show tpk A_tape m_taped (m_at + k) = -1 by omega]; rfl
      refine zz_if_le (tgt := 145) d_MO_readGroup_123 (by decide) (by omega) (fun c30 => ?_) (fun c30 => absurd c30 (by omega))
      exact hk0 _ _ _ of kr (by omega) (by exact hnw) (by exact hfs) (by first | omega | (rw [show tpk A_tape m_taped (m_at + k) = -1 by omega]; rfl)) (by omega) hfr hlen hsl
set_option maxRecDepth 100000 in
set_option maxHeartbeats 4000000 in
theorem z_MO_readGroup {X : ab_X} {d : Nat} {o : Nat → Nat} {G : ab_G} {m_thrown : Int} {m_taped : Int} {m_length : Int} {m_out : Int} {m_wide : Int} {m_gathered : Int} {m_sets : Int} {m_ranges : Int} {m_nodes : Int} {m_at : Int} {m_flags : Int} {m_fault : Int} {m_place : Int} {m_numbered : Int} {m_depth : Int} {m_value : Int} {m_isNot : Int} {m_least0 : Int} {m_most0 : Int} {m_slot : Int} {m_work : Int} {m_got : Int} {m_rowMany : Int} {m_charAt : Int} {m_charWide : Int} {m_trail : Int} {m_isMatch : Int} {m_matchGroups : Int} {m_allFrom : Int} {m_allBefore : Int} {m_founds : Int} {m_pieces : Int} {m_writtenMany : Int} {m_templateWide : Int} {m_tooMuch : Int} {A_tape : Int → Int} {LO : Int → Int} {HI : Int → Int} {MK : Int → Int} {RL : Int → Int} {RH : Int → Int} {NS : Int → Int} {NM : Int → Int} {rp : Int} {ls : Int} {SV : Int → Int → Prop} {ro : Sn} {vv : Sn} {a1_ : Int} {b1_ : Int} {c1_ : Int} {d1_ : Int} {e1_ : Int} {t1_ : List Fr} {ao1_ : Option Sn} {ro1_ : Sn} {ts1_ : List Fs} {na : Int → Int} {nl : Int → Int} (h80 : cc o G 80 280 (ab_ob 12 (mof m_thrown m_taped m_length m_out m_wide m_gathered m_sets m_ranges m_nodes m_at m_flags m_fault m_place m_numbered m_depth m_value m_isNot m_least0 m_most0 m_slot m_work m_got m_rowMany m_charAt m_charWide m_trail m_isMatch m_matchGroups m_allFrom m_allBefore m_founds m_pieces m_writtenMany m_templateWide m_tooMuch))) (h84 : cc o G 84 284 (za 2000 A_tape)) (h87 : cc o G 87 287 (za 9000 LO)) (h88 : cc o G 88 288 (za 9000 HI)) (h93 : cc o G 93 293 (zb 1200 MK)) (h81 : cc o G 81 281 (za 13 tbA)) (h82 : cc o G 82 282 (za 66 tbT)) (h91 : cc o G 91 291 (za 24000 RL)) (h92 : cc o G 92 292 (za 24000 RH)) (h110 : cc o G 110 310 (za 120 NS)) (h111 : cc o G 111 311 (za 10 NM)) (ptrI_0 : trI o G 0 m_nodes m_sets (m_depth + 1) (-1) 0 0 ((a1_, b1_, c1_, d1_, e1_) :: t1_) rp ls 0 SV ((ao1_, ro1_) :: ts1_) ro vv mnI RL RH m_ranges 0 0) (n18 : ab_n0 = 18) (cta : 0 ≤ m_taped ∧ m_taped ≤ 2000) (jtp : rgs A_tape 2000 0 255) (jmk : rgs MK 1200 0 1) (jrl : rgs RL 24000 0 1114111) (jrh : rgs RH 24000 0 1114111) (jns : rgs NS 120 0 255) (jnm : rgs NM 10 0 12) (cf : m_fault = 0) (cat : 0 ≤ m_at ∧ m_at < m_taped) (cpo : 0 ≤ m_nodes ∧ m_nodes + 2 * m_depth + 0 ≤ 2 * m_at ∧ 0 ≤ m_sets ∧ m_sets + 0 ≤ m_at ∧ 0 ≤ m_ranges ∧ m_ranges + 0 ≤ 12 * m_at ∧ 0 ≤ m_depth ∧ m_depth ≤ 30 ∧ 0 ≤ m_numbered ∧ m_numbered ≤ 9 ∧ -2147483648 ≤ m_flags ∧ m_flags ≤ 2147483647 ∧ -2147483648 ≤ m_value ∧ m_value ≤ 2147483647) (cfl : 0 ≤ m_flags ∧ m_flags ≤ 15) (crp : 0 ≤ rp ∧ rp ≤ 1) (jnj : nmJ NS NM A_tape na nl m_numbered) (hch : tpk A_tape m_taped m_at = 40) (hd : 4 ≤ d) : ab_F X d y_MO_readGroup (.code y_MO_readGroup b_MO_readGroup 5 none) [vR 80] G (fun oc G2 => (∃ a2 : Int, ∃ v2 : Int, ∃ nt2 : Int, ∃ w2 : Int, ∃ g2 : Int, ∃ s2 : Int, ∃ r2 : Int, ∃ n2 : Int, ∃ fl2 : Int, ∃ nu2 : Int, ∃ d2 : Int, ∃ le2 : Int, ∃ mo2 : Int, ∃ f2 : Int, ∃ p2 : Int, ∃ LO2 : Int → Int, ∃ HI2 : Int → Int, ∃ MK2 : Int → Int, ∃ RL2 : Int → Int, ∃ RH2 : Int → Int, ∃ NS2 : Int → Int, ∃ NM2 : Int → Int, ∃ fr2 : List Fr, ∃ rp2 : Int, ∃ ls2 : Int, ∃ SV2 : Int → Int → Prop, ∃ FS2 : List Fs, ∃ ro2 : Sn, ∃ vv2 : Sn, ∃ na2 : Int → Int, ∃ nl2 : Int → Int, oc = .returned none ∧ fx o o [280, 287, 288, 293, 291, 292, 310, 311, 294, 295, 296, 297, 298, 299, 300, 301, 290, 289, 305, 306, 307, 308, 309, 302, 303, 304] G G2 ∧ G2.length = G.length ∧ ab_slots G2 = ab_slots G ∧ cc o G2 80 280 (ab_ob 12 (mof m_thrown m_taped m_length m_out w2 g2 s2 r2 n2 a2 fl2 f2 p2 nu2 d2 v2 nt2 le2 mo2 m_slot m_work m_got m_rowMany m_charAt m_charWide m_trail m_isMatch m_matchGroups m_allFrom m_allBefore m_founds m_pieces m_writtenMany m_templateWide m_tooMuch)) ∧ cc o G2 87 287 (za 9000 LO2) ∧ cc o G2 88 288 (za 9000 HI2) ∧ cc o G2 93 293 (zb 1200 MK2) ∧ cc o G2 91 291 (za 24000 RL2) ∧ cc o G2 92 292 (za 24000 RH2) ∧ cc o G2 110 310 (za 120 NS2) ∧ cc o G2 111 311 (za 10 NM2) ∧ trI o G2 0 n2 s2 (d2 + 1) (-1) 0 0 fr2 rp2 ls2 0 SV2 FS2 ro2 vv2 mnI RL2 RH2 r2 0 0 ∧ (f2 = 0 ∧ p2 = m_place ∧ m_at < a2 ∧ a2 ≤ m_taped ∧ 0 ≤ n2 ∧ n2 + 2 * d2 ≤ 2 * a2 ∧ 0 ≤ s2 ∧ s2 ≤ a2 ∧ 0 ≤ r2 ∧ r2 ≤ 12 * a2 ∧ 0 ≤ d2 ∧ d2 ≤ 30 ∧ 0 ≤ nu2 ∧ nu2 ≤ 9 ∧ -2147483648 ≤ fl2 ∧ fl2 ≤ 2147483647 ∧ -2147483648 ≤ v2 ∧ v2 ≤ 2147483647) ∧ (rgs MK2 1200 0 1) ∧ (rgs RL2 24000 0 1114111) ∧ (rgs RH2 24000 0 1114111) ∧ (rgs NS2 120 0 255) ∧ (rgs NM2 10 0 12) ∧ (0 ≤ rp2 ∧ rp2 ≤ 1) ∧ (nmJ NS2 NM2 A_tape na2 nl2 nu2) ∧ (stp A_tape m_taped (m_at, m_flags, m_numbered, na, nl, ((a1_, b1_, c1_, d1_, e1_) :: t1_), rp, ls) (a2, fl2, nu2, na2, nl2, fr2, rp2, ls2)) ∧ (stS A_tape m_taped (m_at, m_flags, m_numbered, na, nl, ((a1_, b1_, c1_, d1_, e1_) :: t1_), rp, ls) (((ao1_, ro1_) :: ts1_), ro, vv) (a2, fl2, nu2, na2, nl2, fr2, rp2, ls2) (FS2, ro2, vv2))) ∨ (∃ a2 : Int, ∃ v2 : Int, ∃ nt2 : Int, ∃ w2 : Int, ∃ g2 : Int, ∃ s2 : Int, ∃ r2 : Int, ∃ n2 : Int, ∃ fl2 : Int, ∃ nu2 : Int, ∃ d2 : Int, ∃ le2 : Int, ∃ mo2 : Int, ∃ f2 : Int, ∃ p2 : Int, ∃ LO2 : Int → Int, ∃ HI2 : Int → Int, ∃ MK2 : Int → Int, ∃ RL2 : Int → Int, ∃ RH2 : Int → Int, ∃ NS2 : Int → Int, ∃ NM2 : Int → Int, ∃ fr2 : List Fr, ∃ rp2 : Int, ∃ ls2 : Int, ∃ SV2 : Int → Int → Prop, ∃ FS2 : List Fs, ∃ ro2 : Sn, ∃ vv2 : Sn, oc = .returned none ∧ fx o o [280, 287, 288, 293, 291, 292, 310, 311, 294, 295, 296, 297, 298, 299, 300, 301, 290, 289, 305, 306, 307, 308, 309, 302, 303, 304] G G2 ∧ G2.length = G.length ∧ ab_slots G2 = ab_slots G ∧ cc o G2 80 280 (ab_ob 12 (mof m_thrown m_taped m_length m_out w2 g2 s2 r2 n2 a2 fl2 f2 p2 nu2 d2 v2 nt2 le2 mo2 m_slot m_work m_got m_rowMany m_charAt m_charWide m_trail m_isMatch m_matchGroups m_allFrom m_allBefore m_founds m_pieces m_writtenMany m_templateWide m_tooMuch)) ∧ cc o G2 87 287 (za 9000 LO2) ∧ cc o G2 88 288 (za 9000 HI2) ∧ cc o G2 93 293 (zb 1200 MK2) ∧ cc o G2 91 291 (za 24000 RL2) ∧ cc o G2 92 292 (za 24000 RH2) ∧ cc o G2 110 310 (za 120 NS2) ∧ cc o G2 111 311 (za 10 NM2) ∧ trI o G2 0 n2 s2 (d2 + 1) (-1) 0 0 fr2 rp2 ls2 0 SV2 FS2 ro2 vv2 mnI RL2 RH2 r2 0 0 ∧ (1 ≤ f2 ∧ f2 ≤ 14 ∧ 0 ≤ a2 ∧ a2 ≤ 4000 ∧ 0 ≤ n2 ∧ n2 ≤ 4200 ∧ 0 ≤ s2 ∧ s2 ≤ 2100 ∧ 0 ≤ r2 ∧ r2 ≤ 24000 ∧ 0 ≤ d2 ∧ d2 ≤ 30 ∧ 0 ≤ nu2 ∧ nu2 ≤ 9 ∧ -2147483648 ≤ fl2 ∧ fl2 ≤ 2147483647 ∧ -2147483648 ≤ v2 ∧ v2 ≤ 2147483647) ∧ (rgs MK2 1200 0 1) ∧ (rgs RL2 24000 0 1114111) ∧ (rgs RH2 24000 0 1114111) ∧ (rgs NS2 120 0 255) ∧ (rgs NM2 10 0 12) ∧ (stF A_tape m_taped (m_at, m_flags, m_numbered, na, nl, ((a1_, b1_, c1_, d1_, e1_) :: t1_), rp, ls) f2 p2))) := by
  refine ab_F_of (by decide +kernel) (Nat.le_of_ble_eq_true rfl) ?_
  obtain ⟨Q, hQ⟩ : ∃ z : Outcome → ab_G → Prop, z = (fun oc G2 => (∃ a2 : Int, ∃ v2 : Int, ∃ nt2 : Int, ∃ w2 : Int, ∃ g2 : Int, ∃ s2 : Int, ∃ r2 : Int, ∃ n2 : Int, ∃ fl2 : Int, ∃ nu2 : Int, ∃ d2 : Int, ∃ le2 : Int, ∃ mo2 : Int, ∃ f2 : Int, ∃ p2 : Int, ∃ LO2 : Int → Int, ∃ HI2 : Int → Int, ∃ MK2 : Int → Int, ∃ RL2 : Int → Int, ∃ RH2 : Int → Int, ∃ NS2 : Int → Int, ∃ NM2 : Int → Int, ∃ fr2 : List Fr, ∃ rp2 : Int, ∃ ls2 : Int, ∃ SV2 : Int → Int → Prop, ∃ FS2 : List Fs, ∃ ro2 : Sn, ∃ vv2 : Sn, ∃ na2 : Int → Int, ∃ nl2 : Int → Int, oc = .returned none ∧ fx o o [280, 287, 288, 293, 291, 292, 310, 311, 294, 295, 296, 297, 298, 299, 300, 301, 290, 289, 305, 306, 307, 308, 309, 302, 303, 304] G G2 ∧ G2.length = G.length ∧ ab_slots G2 = ab_slots G ∧ cc o G2 80 280 (ab_ob 12 (mof m_thrown m_taped m_length m_out w2 g2 s2 r2 n2 a2 fl2 f2 p2 nu2 d2 v2 nt2 le2 mo2 m_slot m_work m_got m_rowMany m_charAt m_charWide m_trail m_isMatch m_matchGroups m_allFrom m_allBefore m_founds m_pieces m_writtenMany m_templateWide m_tooMuch)) ∧ cc o G2 87 287 (za 9000 LO2) ∧ cc o G2 88 288 (za 9000 HI2) ∧ cc o G2 93 293 (zb 1200 MK2) ∧ cc o G2 91 291 (za 24000 RL2) ∧ cc o G2 92 292 (za 24000 RH2) ∧ cc o G2 110 310 (za 120 NS2) ∧ cc o G2 111 311 (za 10 NM2) ∧ trI o G2 0 n2 s2 (d2 + 1) (-1) 0 0 fr2 rp2 ls2 0 SV2 FS2 ro2 vv2 mnI RL2 RH2 r2 0 0 ∧ (f2 = 0 ∧ p2 = m_place ∧ m_at < a2 ∧ a2 ≤ m_taped ∧ 0 ≤ n2 ∧ n2 + 2 * d2 ≤ 2 * a2 ∧ 0 ≤ s2 ∧ s2 ≤ a2 ∧ 0 ≤ r2 ∧ r2 ≤ 12 * a2 ∧ 0 ≤ d2 ∧ d2 ≤ 30 ∧ 0 ≤ nu2 ∧ nu2 ≤ 9 ∧ -2147483648 ≤ fl2 ∧ fl2 ≤ 2147483647 ∧ -2147483648 ≤ v2 ∧ v2 ≤ 2147483647) ∧ (rgs MK2 1200 0 1) ∧ (rgs RL2 24000 0 1114111) ∧ (rgs RH2 24000 0 1114111) ∧ (rgs NS2 120 0 255) ∧ (rgs NM2 10 0 12) ∧ (0 ≤ rp2 ∧ rp2 ≤ 1) ∧ (nmJ NS2 NM2 A_tape na2 nl2 nu2) ∧ (stp A_tape m_taped (m_at, m_flags, m_numbered, na, nl, ((a1_, b1_, c1_, d1_, e1_) :: t1_), rp, ls) (a2, fl2, nu2, na2, nl2, fr2, rp2, ls2)) ∧ (stS A_tape m_taped (m_at, m_flags, m_numbered, na, nl, ((a1_, b1_, c1_, d1_, e1_) :: t1_), rp, ls) (((ao1_, ro1_) :: ts1_), ro, vv) (a2, fl2, nu2, na2, nl2, fr2, rp2, ls2) (FS2, ro2, vv2))) ∨ (∃ a2 : Int, ∃ v2 : Int, ∃ nt2 : Int, ∃ w2 : Int, ∃ g2 : Int, ∃ s2 : Int, ∃ r2 : Int, ∃ n2 : Int, ∃ fl2 : Int, ∃ nu2 : Int, ∃ d2 : Int, ∃ le2 : Int, ∃ mo2 : Int, ∃ f2 : Int, ∃ p2 : Int, ∃ LO2 : Int → Int, ∃ HI2 : Int → Int, ∃ MK2 : Int → Int, ∃ RL2 : Int → Int, ∃ RH2 : Int → Int, ∃ NS2 : Int → Int, ∃ NM2 : Int → Int, ∃ fr2 : List Fr, ∃ rp2 : Int, ∃ ls2 : Int, ∃ SV2 : Int → Int → Prop, ∃ FS2 : List Fs, ∃ ro2 : Sn, ∃ vv2 : Sn, oc = .returned none ∧ fx o o [280, 287, 288, 293, 291, 292, 310, 311, 294, 295, 296, 297, 298, 299, 300, 301, 290, 289, 305, 306, 307, 308, 309, 302, 303, 304] G G2 ∧ G2.length = G.length ∧ ab_slots G2 = ab_slots G ∧ cc o G2 80 280 (ab_ob 12 (mof m_thrown m_taped m_length m_out w2 g2 s2 r2 n2 a2 fl2 f2 p2 nu2 d2 v2 nt2 le2 mo2 m_slot m_work m_got m_rowMany m_charAt m_charWide m_trail m_isMatch m_matchGroups m_allFrom m_allBefore m_founds m_pieces m_writtenMany m_templateWide m_tooMuch)) ∧ cc o G2 87 287 (za 9000 LO2) ∧ cc o G2 88 288 (za 9000 HI2) ∧ cc o G2 93 293 (zb 1200 MK2) ∧ cc o G2 91 291 (za 24000 RL2) ∧ cc o G2 92 292 (za 24000 RH2) ∧ cc o G2 110 310 (za 120 NS2) ∧ cc o G2 111 311 (za 10 NM2) ∧ trI o G2 0 n2 s2 (d2 + 1) (-1) 0 0 fr2 rp2 ls2 0 SV2 FS2 ro2 vv2 mnI RL2 RH2 r2 0 0 ∧ (1 ≤ f2 ∧ f2 ≤ 14 ∧ 0 ≤ a2 ∧ a2 ≤ 4000 ∧ 0 ≤ n2 ∧ n2 ≤ 4200 ∧ 0 ≤ s2 ∧ s2 ≤ 2100 ∧ 0 ≤ r2 ∧ r2 ≤ 24000 ∧ 0 ≤ d2 ∧ d2 ≤ 30 ∧ 0 ≤ nu2 ∧ nu2 ≤ 9 ∧ -2147483648 ≤ fl2 ∧ fl2 ≤ 2147483647 ∧ -2147483648 ≤ v2 ∧ v2 ≤ 2147483647) ∧ (rgs MK2 1200 0 1) ∧ (rgs RL2 24000 0 1114111) ∧ (rgs RH2 24000 0 1114111) ∧ (rgs NS2 120 0 255) ∧ (rgs NM2 10 0 12) ∧ (stF A_tape m_taped (m_at, m_flags, m_numbered, na, nl, ((a1_, b1_, c1_, d1_, e1_) :: t1_), rp, ls) f2 p2))) := ⟨_, rfl⟩
  rw [← hQ]
  change ab_W X (ab_pl y_MO_readGroup b_MO_readGroup 5 none) d G 0 [some (vR 80), none, none, none, none] [] Q
  have hfr : fx o o [280, 287, 288, 293, 291, 292, 310, 311, 294, 295, 296, 297, 298, 299, 300, 301, 290, 289, 305, 306, 307, 308, 309, 302, 303, 304] G G := fx.rf
  have hlen : G.length = G.length := rfl
  have hsl : ab_slots G = ab_slots G := rfl
  obtain ⟨K, O, Fi, Be, Le, Mo, Z, LZ, SM, SA, QF, QL, AF, AL, SD, OA, OF, ON, h94, h95, h96, h97, h98, h99, h100, h101, h90, h89, h105, h106, h107, h108, h109, h102, h103, h104, jk, jo, jfi, jbe, jle, jmo, jz, jlz, jsm, jsa, jqf, jql, jaf, jal, jsd, joa, jof, jon, jt, cnd, cre, crs, crz, ck5, ck6, ck7, jss, jsv⟩ := ptrI_0
  have hln_ := jt.j.len
  have ptrI_0 : trI o G 0 m_nodes m_sets (m_depth + 1) (-1) 0 0 ((a1_, b1_, c1_, d1_, e1_) :: t1_) rp ls 0 SV ((ao1_, ro1_) :: ts1_) ro vv mnI RL RH m_ranges 0 0 := ⟨K, O, Fi, Be, Le, Mo, Z, LZ, SM, SA, QF, QL, AF, AL, SD, OA, OF, ON, h94, h95, h96, h97, h98, h99, h100, h101, h90, h89, h105, h106, h107, h108, h109, h102, h103, h104, jk, jo, jfi, jbe, jle, jmo, jz, jlz, jsm, jsa, jqf, jql, jaf, jal, jsd, joa, jof, jon, jt, (by omega), (fun h => absurd h (by decide)), (fun h => absurd h (by decide)), (fun h => absurd h (by decide)), (fun h => absurd h (by decide)), (fun h => absurd h (by decide)), (fun h => absurd h (by decide)), jss, jsv⟩
  have hfo_ : m_at + 4 = m_at + 4 := rfl
  refine ab_aload_n d_MO_readGroup_0 rfl ?_
  refine ab_getf (fs := mof m_thrown m_taped m_length m_out m_wide m_gathered m_sets m_ranges m_nodes m_at m_flags m_fault m_place m_numbered m_depth m_value m_isNot m_least0 m_most0 m_slot m_work m_got m_rowMany m_charAt m_charWide m_trail m_isMatch m_matchGroups m_allFrom m_allBefore m_founds m_pieces m_writtenMany m_templateWide m_tooMuch) f_MO_279 d_MO_readGroup_1 h80.2.2 rfl ?_
  refine ab_istore_n d_MO_readGroup_4 (Nat.le_of_ble_eq_true rfl) (Nat.le_of_ble_eq_true rfl) rfl ?_
  change ab_W _ _ _ G 5 [some (vR 80), some (vz m_at), none, none, none] [] _
  refine ab_aload_n d_MO_readGroup_5 rfl ?_
  refine zz_iconst d_MO_readGroup_6 ?_
  refine ab_callV (d' := d - 1) (as := [vz 1]) (st := []) (r := _) (z_MO_here (o := o) (m_thrown := m_thrown) (m_taped := m_taped) (m_length := m_length) (m_out := m_out) (m_wide := m_wide) (m_gathered := m_gathered) (m_sets := m_sets) (m_ranges := m_ranges) (m_nodes := m_nodes) (m_at := m_at) (m_flags := m_flags) (m_fault := m_fault) (m_place := m_place) (m_numbered := m_numbered) (m_depth := m_depth) (m_value := m_value) (m_isNot := m_isNot) (m_least0 := m_least0) (m_most0 := m_most0) (m_slot := m_slot) (m_work := m_work) (m_got := m_got) (m_rowMany := m_rowMany) (m_charAt := m_charAt) (m_charWide := m_charWide) (m_trail := m_trail) (m_isMatch := m_isMatch) (m_matchGroups := m_matchGroups) (m_allFrom := m_allFrom) (m_allBefore := m_allBefore) (m_founds := m_founds) (m_pieces := m_pieces) (m_writtenMany := m_writtenMany) (m_templateWide := m_templateWide) (m_tooMuch := m_tooMuch) (A_tape := A_tape) (k := 1) (qh := (m_at + 1)) h80 h84 (by omega) (by omega) jtp (by omega) (by omega)) (fun oc G2 h => by rcases h with ⟨h, _⟩ | ⟨h, _⟩ <;> exact ⟨_, h⟩) (by omega) m_MO_here ml_MO_297 im_MO_here se_MO_here c_MO h80.2.2 (Nat.le_of_ble_eq_true rfl) d_MO_readGroup_7 rfl ?_
  intro v G1 hq
  rcases hq with ⟨hv, hGe, hq2⟩ | ⟨hv, hGe, hq3, hq4⟩
  · cases hv
    rw [hGe]
    change ab_W _ _ _ G 10 [some (vR 80), some (vz m_at), none, none, none] [vz (tpk A_tape m_taped (m_at + 1))] _
    refine zz_bipush d_MO_readGroup_10 (by decide) ?_
    refine zz_icmp_eq (tgt := 33) d_MO_readGroup_12 (by decide) (by omega) (by decide) (fun c5 => ?_) (fun c5 => ?_)
    · refine ab_aload_n d_MO_readGroup_33 rfl ?_
      refine zz_iconst d_MO_readGroup_34 ?_
      refine ab_callV (d' := d - 1) (as := [vz 2]) (st := []) (r := _) (z_MO_here (o := o) (m_thrown := m_thrown) (m_taped := m_taped) (m_length := m_length) (m_out := m_out) (m_wide := m_wide) (m_gathered := m_gathered) (m_sets := m_sets) (m_ranges := m_ranges) (m_nodes := m_nodes) (m_at := m_at) (m_flags := m_flags) (m_fault := m_fault) (m_place := m_place) (m_numbered := m_numbered) (m_depth := m_depth) (m_value := m_value) (m_isNot := m_isNot) (m_least0 := m_least0) (m_most0 := m_most0) (m_slot := m_slot) (m_work := m_work) (m_got := m_got) (m_rowMany := m_rowMany) (m_charAt := m_charAt) (m_charWide := m_charWide) (m_trail := m_trail) (m_isMatch := m_isMatch) (m_matchGroups := m_matchGroups) (m_allFrom := m_allFrom) (m_allBefore := m_allBefore) (m_founds := m_founds) (m_pieces := m_pieces) (m_writtenMany := m_writtenMany) (m_templateWide := m_templateWide) (m_tooMuch := m_tooMuch) (A_tape := A_tape) (k := 2) (qh := (m_at + 2)) h80 h84 (by omega) (by omega) jtp (by omega) (by omega)) (fun oc G2 h => by rcases h with ⟨h, _⟩ | ⟨h, _⟩ <;> exact ⟨_, h⟩) (by omega) m_MO_here ml_MO_297 im_MO_here se_MO_here c_MO h80.2.2 (Nat.le_of_ble_eq_true rfl) d_MO_readGroup_35 rfl ?_
      intro v G6 hq
      rcases hq with ⟨hv, hGe, hq7⟩ | ⟨hv, hGe, hq8, hq9⟩
      · cases hv
        rw [hGe]
        change ab_W _ _ _ G 38 [some (vR 80), some (vz m_at), none, none, none] [vz (tpk A_tape m_taped (m_at + 2))] _
        refine zz_bipush d_MO_readGroup_38 (by decide) ?_
        refine zz_icmp_ne (tgt := 49) d_MO_readGroup_40 (by decide) (by omega) (by decide) (fun c10 => ?_) (fun c10 => ?_)
        · refine ab_aload_n d_MO_readGroup_49 rfl ?_
          refine ab_getf (fs := mof m_thrown m_taped m_length m_out m_wide m_gathered m_sets m_ranges m_nodes m_at m_flags m_fault m_place m_numbered m_depth m_value m_isNot m_least0 m_most0 m_slot m_work m_got m_rowMany m_charAt m_charWide m_trail m_isMatch m_matchGroups m_allFrom m_allBefore m_founds m_pieces m_writtenMany m_templateWide m_tooMuch) f_MO_276 d_MO_readGroup_50 h80.2.2 rfl ?_
          refine ab_istore_n d_MO_readGroup_53 (Nat.le_of_ble_eq_true rfl) (Nat.le_of_ble_eq_true rfl) rfl ?_
          change ab_W _ _ _ G 54 [some (vR 80), some (vz m_at), some (vz m_flags), none, none] [] _
          refine zz_iconst d_MO_readGroup_54 ?_
          refine ab_istore_n d_MO_readGroup_55 (Nat.le_of_ble_eq_true rfl) (Nat.le_of_ble_eq_true rfl) rfl ?_
          change ab_W _ _ _ G 56 [some (vR 80), some (vz m_at), some (vz m_flags), some (vz 2), none] [] _
          refine y_MO_readGroup_56 (m_thrown := m_thrown) (m_taped := m_taped) (m_length := m_length) (m_out := m_out) (m_wide := m_wide) (m_gathered := m_gathered) (m_sets := m_sets) (m_ranges := m_ranges) (m_nodes := m_nodes) (m_at := m_at) (m_flags := m_flags) (m_fault := m_fault) (m_place := m_place) (m_numbered := m_numbered) (m_depth := m_depth) (m_value := m_value) (m_isNot := m_isNot) (m_least0 := m_least0) (m_most0 := m_most0) (m_slot := m_slot) (m_work := m_work) (m_got := m_got) (m_rowMany := m_rowMany) (m_charAt := m_charAt) (m_charWide := m_charWide) (m_trail := m_trail) (m_isMatch := m_isMatch) (m_matchGroups := m_matchGroups) (m_allFrom := m_allFrom) (m_allBefore := m_allBefore) (m_founds := m_founds) (m_pieces := m_pieces) (m_writtenMany := m_writtenMany) (m_templateWide := m_templateWide) (m_tooMuch := m_tooMuch) (A_tape := A_tape) (wh := m_at) (r0 := (flgS A_tape m_taped (Int.toNat (m_taped + 3)) (m_at + 2) 0 0 0)) (G0 := G) (nw := m_flags) (k := 2) (on := 0) (kr := (Int.toNat (m_taped + 3))) (by omega) jtp (by omega) (by omega) (by omega) (Int.toNat (m_taped - m_at - 2) + 1) h80 h84 (by omega) (by rw [flor_0 (by omega)]) rfl fx.rf rfl rfl (by omega) (fun G11 nw212 k213 on214 kr215 hq16 hq17 hq18 hq19 hfk hlk hsk => ?_)
          · have h80 := hfk.get h80 (by decide)
            have h84 := hfk.get h84 (by decide)
            have h87 := hfk.get h87 (by decide)
            have h88 := hfk.get h88 (by decide)
            have h93 := hfk.get h93 (by decide)
            have h81 := hfk.get h81 (by decide)
            have h82 := hfk.get h82 (by decide)
            have h91 := hfk.get h91 (by decide)
            have h92 := hfk.get h92 (by decide)
            have h110 := hfk.get h110 (by decide)
            have h111 := hfk.get h111 (by decide)
            have ptrI_0 := trI.fr hfk ptrI_0 (by decide) (by decide) (by decide) (by decide) (by decide) (by decide) (by decide) (by decide) (by decide) (by decide) (by decide) (by decide) (by decide) (by decide) (by decide) (by decide) (by decide) (by decide)
            have hfr := hfr.tr hfk (by decide)
            have hlen := hlk.trans hlen
            have hsl := hsk.trans hsl
            change ab_W _ _ _ G11 84 [some (vR 80), some (vz m_at), some (vz nw212), some (vz k213), none] [] _
            obtain ⟨kq8, hkq8⟩ : ∃ z : Nat, kr215 = z + 1 := ⟨kr215 - 1, by omega⟩
            refine ab_aload_n d_MO_readGroup_84 rfl ?_
            refine ab_iload_n d_MO_readGroup_85 rfl ?_
            refine ab_callV (d' := d - 1) (as := [vz k213]) (st := []) (r := _) (z_MO_here (o := o) (m_thrown := m_thrown) (m_taped := m_taped) (m_length := m_length) (m_out := m_out) (m_wide := m_wide) (m_gathered := m_gathered) (m_sets := m_sets) (m_ranges := m_ranges) (m_nodes := m_nodes) (m_at := m_at) (m_flags := m_flags) (m_fault := m_fault) (m_place := m_place) (m_numbered := m_numbered) (m_depth := m_depth) (m_value := m_value) (m_isNot := m_isNot) (m_least0 := m_least0) (m_most0 := m_most0) (m_slot := m_slot) (m_work := m_work) (m_got := m_got) (m_rowMany := m_rowMany) (m_charAt := m_charAt) (m_charWide := m_charWide) (m_trail := m_trail) (m_isMatch := m_isMatch) (m_matchGroups := m_matchGroups) (m_allFrom := m_allFrom) (m_allBefore := m_allBefore) (m_founds := m_founds) (m_pieces := m_pieces) (m_writtenMany := m_writtenMany) (m_templateWide := m_templateWide) (m_tooMuch := m_tooMuch) (A_tape := A_tape) (k := k213) (qh := (m_at + k213)) h80 h84 (by omega) (by omega) jtp (by omega) (by omega)) (fun oc G2 h => by rcases h with ⟨h, _⟩ | ⟨h, _⟩ <;> exact ⟨_, h⟩) (by omega) m_MO_here ml_MO_297 im_MO_here se_MO_here c_MO h80.2.2 (Nat.le_of_ble_eq_true rfl) d_MO_readGroup_86 rfl ?_
            intro v G20 hq
            rcases hq with ⟨hv, hGe, hq21⟩ | ⟨hv, hGe, hq22, hq23⟩
            · cases hv
              rw [hGe]
              change ab_W _ _ _ G11 89 [some (vR 80), some (vz m_at), some (vz nw212), some (vz k213), none] [vz (tpk A_tape m_taped (m_at + k213))] _
              refine zz_bipush d_MO_readGroup_89 (by decide) ?_
              refine zz_icmp_ne (tgt := 145) d_MO_readGroup_91 (by decide) (by omega) (by decide) (fun c24 => ?_) (fun c24 => ?_)
              · obtain ⟨kq7, hkq7⟩ : ∃ z : Nat, kr215 = z + 1 := ⟨kr215 - 1, by omega⟩
                refine ab_aload_n d_MO_readGroup_145 rfl ?_
                refine ab_iload_n d_MO_readGroup_146 rfl ?_
                refine ab_callV (d' := d - 1) (as := [vz k213]) (st := []) (r := _) (z_MO_here (o := o) (m_thrown := m_thrown) (m_taped := m_taped) (m_length := m_length) (m_out := m_out) (m_wide := m_wide) (m_gathered := m_gathered) (m_sets := m_sets) (m_ranges := m_ranges) (m_nodes := m_nodes) (m_at := m_at) (m_flags := m_flags) (m_fault := m_fault) (m_place := m_place) (m_numbered := m_numbered) (m_depth := m_depth) (m_value := m_value) (m_isNot := m_isNot) (m_least0 := m_least0) (m_most0 := m_most0) (m_slot := m_slot) (m_work := m_work) (m_got := m_got) (m_rowMany := m_rowMany) (m_charAt := m_charAt) (m_charWide := m_charWide) (m_trail := m_trail) (m_isMatch := m_isMatch) (m_matchGroups := m_matchGroups) (m_allFrom := m_allFrom) (m_allBefore := m_allBefore) (m_founds := m_founds) (m_pieces := m_pieces) (m_writtenMany := m_writtenMany) (m_templateWide := m_templateWide) (m_tooMuch := m_tooMuch) (A_tape := A_tape) (k := k213) (qh := (m_at + k213)) h80 h84 (by omega) (by omega) jtp (by omega) (by omega)) (fun oc G2 h => by rcases h with ⟨h, _⟩ | ⟨h, _⟩ <;> exact ⟨_, h⟩) (by omega) m_MO_here ml_MO_297 im_MO_here se_MO_here c_MO h80.2.2 (Nat.le_of_ble_eq_true rfl) d_MO_readGroup_147 rfl ?_
                intro v G25 hq
                rcases hq with ⟨hv, hGe, hq26⟩ | ⟨hv, hGe, hq27, hq28⟩
                · cases hv
                  rw [hGe]
                  change ab_W _ _ _ G11 150 [some (vR 80), some (vz m_at), some (vz nw212), some (vz k213), none] [vz (tpk A_tape m_taped (m_at + k213))] _
                  refine ab_istore d_MO_readGroup_150 (Nat.le_of_ble_eq_true rfl) (Nat.le_of_ble_eq_true rfl) rfl ?_
                  change ab_W _ _ _ G11 152 [some (vR 80), some (vz m_at), some (vz nw212), some (vz k213), some (vz (tpk A_tape m_taped (m_at + k213)))] [] _
                  refine ab_iload d_MO_readGroup_152 rfl ?_
                  refine zz_bipush d_MO_readGroup_154 (by decide) ?_
                  refine zz_icmp_eq (tgt := 176) d_MO_readGroup_156 (by decide) (by omega) (by decide) (fun c29 => ?_) (fun c29 => ?_)
                  · refine ab_iload d_MO_readGroup_176 rfl ?_
                    refine zz_bipush d_MO_readGroup_178 (by decide) ?_
                    refine zz_icmp_ne (tgt := 199) d_MO_readGroup_180 (by decide) (by omega) (by decide) (fun c30 => absurd c30 (by omega)) (fun c30 => ?_)
                    refine ab_aload_n d_MO_readGroup_183 rfl ?_
                    refine ab_getf (fs := mof m_thrown m_taped m_length m_out m_wide m_gathered m_sets m_ranges m_nodes m_at m_flags m_fault m_place m_numbered m_depth m_value m_isNot m_least0 m_most0 m_slot m_work m_got m_rowMany m_charAt m_charWide m_trail m_isMatch m_matchGroups m_allFrom m_allBefore m_founds m_pieces m_writtenMany m_templateWide m_tooMuch) f_MO_282 d_MO_readGroup_184 h80.2.2 rfl ?_
                    refine zz_bipush d_MO_readGroup_187 (by decide) ?_
                    refine zz_icmp_ne (tgt := 199) d_MO_readGroup_189 (by decide) (by omega) (by decide) (fun c31 => ?_) (fun c31 => ?_)
                    · refine ab_aload_n d_MO_readGroup_199 rfl ?_
                      refine ab_getf (fs := mof m_thrown m_taped m_length m_out m_wide m_gathered m_sets m_ranges m_nodes m_at m_flags m_fault m_place m_numbered m_depth m_value m_isNot m_least0 m_most0 m_slot m_work m_got m_rowMany m_charAt m_charWide m_trail m_isMatch m_matchGroups m_allFrom m_allBefore m_founds m_pieces m_writtenMany m_templateWide m_tooMuch) f_MO_273 d_MO_readGroup_200 h80.2.2 rfl ?_
                      refine zz_if_le (tgt := 207) d_MO_readGroup_203 (by decide) (by omega) (fun c32 => ?_) (fun c32 => absurd c32 (by omega))
                      refine ab_aload_n d_MO_readGroup_207 rfl ?_
                      refine ab_dup d_MO_readGroup_208 rfl ?_
                      refine ab_getf (fs := mof m_thrown m_taped m_length m_out m_wide m_gathered m_sets m_ranges m_nodes m_at m_flags m_fault m_place m_numbered m_depth m_value m_isNot m_least0 m_most0 m_slot m_work m_got m_rowMany m_charAt m_charWide m_trail m_isMatch m_matchGroups m_allFrom m_allBefore m_founds m_pieces m_writtenMany m_templateWide m_tooMuch) f_MO_279 d_MO_readGroup_209 h80.2.2 rfl ?_
                      refine ab_iload_n d_MO_readGroup_212 rfl ?_
                      refine zz_iconst d_MO_readGroup_213 ?_
                      refine zz_iadd d_MO_readGroup_214 ?_
                      refine zz_iadd d_MO_readGroup_215 ?_
                      refine ab_putf (fs := mof m_thrown m_taped m_length m_out m_wide m_gathered m_sets m_ranges m_nodes m_at m_flags m_fault m_place m_numbered m_depth m_value m_isNot m_least0 m_most0 m_slot m_work m_got m_rowMany m_charAt m_charWide m_trail m_isMatch m_matchGroups m_allFrom m_allBefore m_founds m_pieces m_writtenMany m_templateWide m_tooMuch) f_MO_279 (Or.inl rfl) d_MO_readGroup_216 h80.2.2 (Nat.le_of_ble_eq_true rfl) (fun _ => ⟨rfl, rfl⟩) (h80.2.1 (by decide)) ?_
                      obtain ⟨G33, eG33⟩ : ∃ z : ab_G, z = List.set G11 80 (ab_ob 12 (mof m_thrown m_taped m_length m_out m_wide m_gathered m_sets m_ranges m_nodes (m_at + (k213 + 1)) m_flags m_fault m_place m_numbered m_depth m_value m_isNot m_least0 m_most0 m_slot m_work m_got m_rowMany m_charAt m_charWide m_trail m_isMatch m_matchGroups m_allFrom m_allBefore m_founds m_pieces m_writtenMany m_templateWide m_tooMuch)) := ⟨_, rfl⟩
                      have h84 := h84.keep h80 eG33 (by decide)
                      have h87 := h87.keep h80 eG33 (by decide)
                      have h88 := h88.keep h80 eG33 (by decide)
                      have h93 := h93.keep h80 eG33 (by decide)
                      have h81 := h81.keep h80 eG33 (by decide)
                      have h82 := h82.keep h80 eG33 (by decide)
                      have h91 := h91.keep h80 eG33 (by decide)
                      have h92 := h92.keep h80 eG33 (by decide)
                      have h110 := h110.keep h80 eG33 (by decide)
                      have h111 := h111.keep h80 eG33 (by decide)
                      have hst := (fx.rf (o := o) (S := [280]) (G := G11)).wr h80 eG33 (List.mem_singleton.mpr rfl)
                      have ptrI_0 := trI.fr hst ptrI_0 (by decide) (by decide) (by decide) (by decide) (by decide) (by decide) (by decide) (by decide) (by decide) (by decide) (by decide) (by decide) (by decide) (by decide) (by decide) (by decide) (by decide) (by decide)
                      have hlen := (z_len eG33).trans hlen
                      have hsl := (z_sl h80 eG33 rfl).trans hsl
                      have hfr := hfr.wr h80 eG33 (by decide)
                      have h80 := h80.kept eG33
                      change ab_W _ _ _ (List.set G11 80 (ab_ob 12 (mof m_thrown m_taped m_length m_out m_wide m_gathered m_sets m_ranges m_nodes (m_at + (k213 + 1)) m_flags m_fault m_place m_numbered m_depth m_value m_isNot m_least0 m_most0 m_slot m_work m_got m_rowMany m_charAt m_charWide m_trail m_isMatch m_matchGroups m_allFrom m_allBefore m_founds m_pieces m_writtenMany m_templateWide m_tooMuch))) 219 [some (vR 80), some (vz m_at), some (vz nw212), some (vz k213), some (vz (tpk A_tape m_taped (m_at + k213)))] [] _
                      rw [← eG33]
                      refine ab_iload d_MO_readGroup_219 rfl ?_
                      refine zz_bipush d_MO_readGroup_221 (by decide) ?_
                      refine zz_icmp_ne (tgt := 244) d_MO_readGroup_223 (by decide) (by omega) (by decide) (fun c34 => ?_) (fun c34 => absurd c34 (by omega))
                      refine ab_aload_n d_MO_readGroup_244 rfl ?_
                      refine ab_dup d_MO_readGroup_245 rfl ?_
                      refine ab_getf (fs := mof m_thrown m_taped m_length m_out m_wide m_gathered m_sets m_ranges m_nodes (m_at + (k213 + 1)) m_flags m_fault m_place m_numbered m_depth m_value m_isNot m_least0 m_most0 m_slot m_work m_got m_rowMany m_charAt m_charWide m_trail m_isMatch m_matchGroups m_allFrom m_allBefore m_founds m_pieces m_writtenMany m_templateWide m_tooMuch) f_MO_282 d_MO_readGroup_246 h80.2.2 rfl ?_
                      refine zz_iconst d_MO_readGroup_249 ?_
                      refine zz_iadd d_MO_readGroup_250 ?_
                      refine ab_putf (fs := mof m_thrown m_taped m_length m_out m_wide m_gathered m_sets m_ranges m_nodes (m_at + (k213 + 1)) m_flags m_fault m_place m_numbered m_depth m_value m_isNot m_least0 m_most0 m_slot m_work m_got m_rowMany m_charAt m_charWide m_trail m_isMatch m_matchGroups m_allFrom m_allBefore m_founds m_pieces m_writtenMany m_templateWide m_tooMuch) f_MO_282 (Or.inl rfl) d_MO_readGroup_251 h80.2.2 (Nat.le_of_ble_eq_true rfl) (fun _ => ⟨rfl, rfl⟩) (h80.2.1 (by decide)) ?_
                      obtain ⟨G35, eG35⟩ : ∃ z : ab_G, z = List.set G33 80 (ab_ob 12 (mof m_thrown m_taped m_length m_out m_wide m_gathered m_sets m_ranges m_nodes (m_at + (k213 + 1)) m_flags m_fault m_place m_numbered (m_depth + 1) m_value m_isNot m_least0 m_most0 m_slot m_work m_got m_rowMany m_charAt m_charWide m_trail m_isMatch m_matchGroups m_allFrom m_allBefore m_founds m_pieces m_writtenMany m_templateWide m_tooMuch)) := ⟨_, rfl⟩
                      have h84 := h84.keep h80 eG35 (by decide)
                      have h87 := h87.keep h80 eG35 (by decide)
                      have h88 := h88.keep h80 eG35 (by decide)
                      have h93 := h93.keep h80 eG35 (by decide)
                      have h81 := h81.keep h80 eG35 (by decide)
                      have h82 := h82.keep h80 eG35 (by decide)
                      have h91 := h91.keep h80 eG35 (by decide)
                      have h92 := h92.keep h80 eG35 (by decide)
                      have h110 := h110.keep h80 eG35 (by decide)
                      have h111 := h111.keep h80 eG35 (by decide)
                      have hst := (fx.rf (o := o) (S := [280]) (G := G33)).wr h80 eG35 (List.mem_singleton.mpr rfl)
                      have ptrI_0 := trI.fr hst ptrI_0 (by decide) (by decide) (by decide) (by decide) (by decide) (by decide) (by decide) (by decide) (by decide) (by decide) (by decide) (by decide) (by decide) (by decide) (by decide) (by decide) (by decide) (by decide)
                      have hlen := (z_len eG35).trans hlen
                      have hsl := (z_sl h80 eG35 rfl).trans hsl
                      have hfr := hfr.wr h80 eG35 (by decide)
                      have h80 := h80.kept eG35
                      change ab_W _ _ _ (List.set G33 80 (ab_ob 12 (mof m_thrown m_taped m_length m_out m_wide m_gathered m_sets m_ranges m_nodes (m_at + (k213 + 1)) m_flags m_fault m_place m_numbered (m_depth + 1) m_value m_isNot m_least0 m_most0 m_slot m_work m_got m_rowMany m_charAt m_charWide m_trail m_isMatch m_matchGroups m_allFrom m_allBefore m_founds m_pieces m_writtenMany m_templateWide m_tooMuch))) 254 [some (vR 80), some (vz m_at), some (vz nw212), some (vz k213), some (vz (tpk A_tape m_taped (m_at + k213)))] [] _
                      rw [← eG35]
                      refine ab_aload_n d_MO_readGroup_254 rfl ?_
                      refine ab_iload_n d_MO_readGroup_255 rfl ?_
                      refine ab_aload_n d_MO_readGroup_256 rfl ?_
                      refine ab_getf (fs := mof m_thrown m_taped m_length m_out m_wide m_gathered m_sets m_ranges m_nodes (m_at + (k213 + 1)) m_flags m_fault m_place m_numbered (m_depth + 1) m_value m_isNot m_least0 m_most0 m_slot m_work m_got m_rowMany m_charAt m_charWide m_trail m_isMatch m_matchGroups m_allFrom m_allBefore m_founds m_pieces m_writtenMany m_templateWide m_tooMuch) f_MO_276 d_MO_readGroup_257 h80.2.2 rfl ?_
                      refine zz_iconst d_MO_readGroup_260 ?_
                      refine ab_callV (d' := d - 1) (as := [vz m_at, vz m_flags, vz 0]) (st := []) (r := _) (z_MO_openGroup (o := o) (m_thrown := m_thrown) (m_taped := m_taped) (m_length := m_length) (m_out := m_out) (m_wide := m_wide) (m_gathered := m_gathered) (m_sets := m_sets) (m_ranges := m_ranges) (m_nodes := m_nodes) (m_at := (m_at + (k213 + 1))) (m_flags := m_flags) (m_fault := m_fault) (m_place := m_place) (m_numbered := m_numbered) (m_depth := (m_depth + 1)) (m_value := m_value) (m_isNot := m_isNot) (m_least0 := m_least0) (m_most0 := m_most0) (m_slot := m_slot) (m_work := m_work) (m_got := m_got) (m_rowMany := m_rowMany) (m_charAt := m_charAt) (m_charWide := m_charWide) (m_trail := m_trail) (m_isMatch := m_isMatch) (m_matchGroups := m_matchGroups) (m_allFrom := m_allFrom) (m_allBefore := m_allBefore) (m_founds := m_founds) (m_pieces := m_pieces) (m_writtenMany := m_writtenMany) (m_templateWide := m_templateWide) (m_tooMuch := m_tooMuch) (x := m_at) (y := m_flags) (w := 0) (dn := (-1)) (dh := 0) (re_ := 0) (fr := ((a1_, b1_, c1_, d1_, e1_) :: t1_)) (rp := rp) (ls := ls) (dz := 0) (SV := SV) (FS := ((ao1_, ro1_) :: ts1_)) (ro := ro) (vv := vv) (dv := mnI) (b2_ := m_flags) (nu9 := 0) (fo9 := 0) (RL := RL) (RH := RH) h80 ptrI_0 (by omega) (by omega) (by omega) (Or.inr rfl) (by omega)) (fun oc G2 h => by rcases h with ⟨h, _⟩ <;> exact ⟨_, h⟩) (by omega) m_MO_openGroup ml_MO_392 im_MO_openGroup se_MO_openGroup c_MO h80.2.2 (Nat.le_of_ble_eq_true rfl) d_MO_readGroup_261 rfl ?_
                      intro v G36 hq
                      rcases hq with ⟨hv, hfk, hlk, hsk, pNtrI_0⟩
                      cases hv
                      have h80 := hfk.get h80 (by decide)
                      have h84 := hfk.get h84 (by decide)
                      have h87 := hfk.get h87 (by decide)
                      have h88 := hfk.get h88 (by decide)
                      have h93 := hfk.get h93 (by decide)
                      have h81 := hfk.get h81 (by decide)
                      have h82 := hfk.get h82 (by decide)
                      have h91 := hfk.get h91 (by decide)
                      have h92 := hfk.get h92 (by decide)
                      have h110 := hfk.get h110 (by decide)
                      have h111 := hfk.get h111 (by decide)
                      have ptrI_0 := pNtrI_0
                      have hfr := hfr.tr hfk (by decide)
                      have hlen := hlk.trans hlen
                      have hsl := hsk.trans hsl
                      change ab_W _ _ _ G36 264 [some (vR 80), some (vz m_at), some (vz nw212), some (vz k213), some (vz (tpk A_tape m_taped (m_at + k213)))] [] _
                      refine ab_aload_n d_MO_readGroup_264 rfl ?_
                      refine ab_iload_n d_MO_readGroup_265 rfl ?_
                      refine ab_putf (fs := mof m_thrown m_taped m_length m_out m_wide m_gathered m_sets m_ranges m_nodes (m_at + (k213 + 1)) m_flags m_fault m_place m_numbered (m_depth + 1) m_value m_isNot m_least0 m_most0 m_slot m_work m_got m_rowMany m_charAt m_charWide m_trail m_isMatch m_matchGroups m_allFrom m_allBefore m_founds m_pieces m_writtenMany m_templateWide m_tooMuch) f_MO_276 (Or.inl rfl) d_MO_readGroup_266 h80.2.2 (Nat.le_of_ble_eq_true rfl) (fun _ => ⟨rfl, rfl⟩) (h80.2.1 (by decide)) ?_
                      obtain ⟨G37, eG37⟩ : ∃ z : ab_G, z = List.set G36 80 (ab_ob 12 (mof m_thrown m_taped m_length m_out m_wide m_gathered m_sets m_ranges m_nodes (m_at + (k213 + 1)) nw212 m_fault m_place m_numbered (m_depth + 1) m_value m_isNot m_least0 m_most0 m_slot m_work m_got m_rowMany m_charAt m_charWide m_trail m_isMatch m_matchGroups m_allFrom m_allBefore m_founds m_pieces m_writtenMany m_templateWide m_tooMuch)) := ⟨_, rfl⟩
                      have h84 := h84.keep h80 eG37 (by decide)
                      have h87 := h87.keep h80 eG37 (by decide)
                      have h88 := h88.keep h80 eG37 (by decide)
                      have h93 := h93.keep h80 eG37 (by decide)
                      have h81 := h81.keep h80 eG37 (by decide)
                      have h82 := h82.keep h80 eG37 (by decide)
                      have h91 := h91.keep h80 eG37 (by decide)
                      have h92 := h92.keep h80 eG37 (by decide)
                      have h110 := h110.keep h80 eG37 (by decide)
                      have h111 := h111.keep h80 eG37 (by decide)
                      have hst := (fx.rf (o := o) (S := [280]) (G := G36)).wr h80 eG37 (List.mem_singleton.mpr rfl)
                      have ptrI_0 := trI.fr hst ptrI_0 (by decide) (by decide) (by decide) (by decide) (by decide) (by decide) (by decide) (by decide) (by decide) (by decide) (by decide) (by decide) (by decide) (by decide) (by decide) (by decide) (by decide) (by decide)
                      have hlen := (z_len eG37).trans hlen
                      have hsl := (z_sl h80 eG37 rfl).trans hsl
                      have hfr := hfr.wr h80 eG37 (by decide)
                      have h80 := h80.kept eG37
                      change ab_W _ _ _ (List.set G36 80 (ab_ob 12 (mof m_thrown m_taped m_length m_out m_wide m_gathered m_sets m_ranges m_nodes (m_at + (k213 + 1)) nw212 m_fault m_place m_numbered (m_depth + 1) m_value m_isNot m_least0 m_most0 m_slot m_work m_got m_rowMany m_charAt m_charWide m_trail m_isMatch m_matchGroups m_allFrom m_allBefore m_founds m_pieces m_writtenMany m_templateWide m_tooMuch))) 269 [some (vR 80), some (vz m_at), some (vz nw212), some (vz k213), some (vz (tpk A_tape m_taped (m_at + k213)))] [] _
                      rw [← eG37]
                      refine ab_vret rfl d_MO_readGroup_269 ?_
                      rw [hQ]; exact (Or.inl ⟨_, _, _, _, _, _, _, _, _, _, _, _, _, _, _, _, _, _, _, _, _, _, ((m_at, m_flags, 0, 0, 0) :: ((a1_, b1_, c1_, d1_, e1_) :: t1_)), 0, 0, SV, ((none, mnI) :: ((ao1_, ro1_) :: ts1_)), mnI, mnI, na, nl, rfl, hfr, hlen, hsl, h80, h87, h88, h93, h91, h92, h110, h111, ptrI_0, (by omega), (by first | exact jmk | exact rgs_w jmk (by omega)), (by first | exact jrl | exact rgs_w jrl (by omega)), (by first | exact jrh | exact rgs_w jrh (by omega)), (by first | exact jns | exact rgs_w jns (by omega)), (by first | exact jnm | exact rgs_w jnm (by omega)), (by omega), (by exact jnj), (by rw [show (m_at + (k213 + 1)) = (m_at + k213) + 1 by omega]; exact sb_flgg (by omega) (by omega) (by omega) ⟨_, _, _, flgS_end hq18 hkq7 (by omega), by omega, (by first | (rw [fland_0 (by omega)]; exact hq17) | rw [fland_0 (by omega)])⟩ (by omega) (by have t_ := hln_; simp only [List.length_cons] at t_ ⊢; omega)), (by exact ss_grp (by omega))⟩)
                    · refine ab_aload_n d_MO_readGroup_192 rfl ?_
                      refine zz_bipush d_MO_readGroup_193 (by decide) ?_
                      refine ab_iload_n d_MO_readGroup_195 rfl ?_
                      refine ab_callV (d' := d - 1) (as := [vz 12, vz m_at]) (st := []) (r := _) (z_MO_wrong (o := o) (m_thrown := m_thrown) (m_taped := m_taped) (m_length := m_length) (m_out := m_out) (m_wide := m_wide) (m_gathered := m_gathered) (m_sets := m_sets) (m_ranges := m_ranges) (m_nodes := m_nodes) (m_at := m_at) (m_flags := m_flags) (m_fault := m_fault) (m_place := m_place) (m_numbered := m_numbered) (m_depth := m_depth) (m_value := m_value) (m_isNot := m_isNot) (m_least0 := m_least0) (m_most0 := m_most0) (m_slot := m_slot) (m_work := m_work) (m_got := m_got) (m_rowMany := m_rowMany) (m_charAt := m_charAt) (m_charWide := m_charWide) (m_trail := m_trail) (m_isMatch := m_isMatch) (m_matchGroups := m_matchGroups) (m_allFrom := m_allFrom) (m_allBefore := m_allBefore) (m_founds := m_founds) (m_pieces := m_pieces) (m_writtenMany := m_writtenMany) (m_templateWide := m_templateWide) (m_tooMuch := m_tooMuch) (x := 12) (y := m_at) h80 (by omega) (by omega)) (fun oc G2 h => by rcases h with ⟨h, _⟩ | ⟨h, _⟩ <;> exact ⟨_, h⟩) (by omega) m_MO_wrong ml_MO_304 im_MO_wrong se_MO_wrong c_MO h80.2.2 (Nat.le_of_ble_eq_true rfl) d_MO_readGroup_196 rfl ?_
                      intro v G38 hq
                      rcases hq with ⟨hv, hfk, hlk, hsk, hN80, hq39⟩ | ⟨hv, hGe, hq40⟩
                      · cases hv
                        have h84 := hfk.get h84 (by decide)
                        have h87 := hfk.get h87 (by decide)
                        have h88 := hfk.get h88 (by decide)
                        have h93 := hfk.get h93 (by decide)
                        have h81 := hfk.get h81 (by decide)
                        have h82 := hfk.get h82 (by decide)
                        have h91 := hfk.get h91 (by decide)
                        have h92 := hfk.get h92 (by decide)
                        have h110 := hfk.get h110 (by decide)
                        have h111 := hfk.get h111 (by decide)
                        have ptrI_0 := trI.fr hfk ptrI_0 (by decide) (by decide) (by decide) (by decide) (by decide) (by decide) (by decide) (by decide) (by decide) (by decide) (by decide) (by decide) (by decide) (by decide) (by decide) (by decide) (by decide) (by decide)
                        have hfr := hfr.tr hfk (by decide)
                        have hlen := hlk.trans hlen
                        have hsl := hsk.trans hsl
                        have h80 := hN80
                        change ab_W _ _ _ G38 199 [some (vR 80), some (vz m_at), some (vz nw212), some (vz k213), some (vz (tpk A_tape m_taped (m_at + k213)))] [] _
                        refine ab_aload_n d_MO_readGroup_199 rfl ?_
                        refine ab_getf (fs := mof m_thrown m_taped m_length m_out m_wide m_gathered m_sets m_ranges m_nodes m_at m_flags 12 m_at m_numbered m_depth m_value m_isNot m_least0 m_most0 m_slot m_work m_got m_rowMany m_charAt m_charWide m_trail m_isMatch m_matchGroups m_allFrom m_allBefore m_founds m_pieces m_writtenMany m_templateWide m_tooMuch) f_MO_273 d_MO_readGroup_200 h80.2.2 rfl ?_
                        refine zz_if_le (tgt := 207) d_MO_readGroup_203 (by decide) (by decide) (fun c41 => absurd c41 (by decide)) (fun c41 => ?_)
                        refine ab_vret rfl d_MO_readGroup_206 ?_
                        rw [hQ]; exact (Or.inr ⟨_, _, _, _, _, _, _, _, _, _, _, _, _, _, _, _, _, _, _, _, _, _, ((a1_, b1_, c1_, d1_, e1_) :: t1_), rp, ls, SV, ((ao1_, ro1_) :: ts1_), ro, vv, rfl, hfr, hlen, hsl, h80, h87, h88, h93, h91, h92, h110, h111, ptrI_0, (by omega), (by first | exact jmk | exact rgs_w jmk (by omega)), (by first | exact jrl | exact rgs_w jrl (by omega)), (by first | exact jrh | exact rgs_w jrh (by omega)), (by first | exact jns | exact rgs_w jns (by omega)), (by first | exact jnm | exact rgs_w jnm (by omega)), (by exact sf_o (by omega) (of_g (by omega) (by omega) ⟨_, _, _, flgS_end hq18 hkq7 (by omega), by omega, (by first | (rw [fland_0 (by omega)]; exact hq17) | rw [fland_0 (by omega)])⟩ (by omega) (by have t_ := hln_; simp only [List.length_cons] at t_ ⊢; omega)))⟩)
                      · cases hv
                        rw [hGe]
                        change ab_W _ _ _ G11 199 [some (vR 80), some (vz m_at), some (vz nw212), some (vz k213), some (vz (tpk A_tape m_taped (m_at + k213)))] [] _
                        exfalso; omega
                  · refine ab_iload d_MO_readGroup_159 rfl ?_
                    refine zz_bipush d_MO_readGroup_161 (by decide) ?_
                    refine zz_icmp_eq (tgt := 176) d_MO_readGroup_163 (by decide) (by omega) (by decide) (fun c42 => ?_) (fun c42 => ?_)
                    · refine ab_iload d_MO_readGroup_176 rfl ?_
                      refine zz_bipush d_MO_readGroup_178 (by decide) ?_
                      refine zz_icmp_ne (tgt := 199) d_MO_readGroup_180 (by decide) (by omega) (by decide) (fun c43 => ?_) (fun c43 => absurd c43 (by omega))
                      refine ab_aload_n d_MO_readGroup_199 rfl ?_
                      refine ab_getf (fs := mof m_thrown m_taped m_length m_out m_wide m_gathered m_sets m_ranges m_nodes m_at m_flags m_fault m_place m_numbered m_depth m_value m_isNot m_least0 m_most0 m_slot m_work m_got m_rowMany m_charAt m_charWide m_trail m_isMatch m_matchGroups m_allFrom m_allBefore m_founds m_pieces m_writtenMany m_templateWide m_tooMuch) f_MO_273 d_MO_readGroup_200 h80.2.2 rfl ?_
                      refine zz_if_le (tgt := 207) d_MO_readGroup_203 (by decide) (by omega) (fun c44 => ?_) (fun c44 => absurd c44 (by omega))
                      refine ab_aload_n d_MO_readGroup_207 rfl ?_
                      refine ab_dup d_MO_readGroup_208 rfl ?_
                      refine ab_getf (fs := mof m_thrown m_taped m_length m_out m_wide m_gathered m_sets m_ranges m_nodes m_at m_flags m_fault m_place m_numbered m_depth m_value m_isNot m_least0 m_most0 m_slot m_work m_got m_rowMany m_charAt m_charWide m_trail m_isMatch m_matchGroups m_allFrom m_allBefore m_founds m_pieces m_writtenMany m_templateWide m_tooMuch) f_MO_279 d_MO_readGroup_209 h80.2.2 rfl ?_
                      refine ab_iload_n d_MO_readGroup_212 rfl ?_
                      refine zz_iconst d_MO_readGroup_213 ?_
                      refine zz_iadd d_MO_readGroup_214 ?_
                      refine zz_iadd d_MO_readGroup_215 ?_
                      refine ab_putf (fs := mof m_thrown m_taped m_length m_out m_wide m_gathered m_sets m_ranges m_nodes m_at m_flags m_fault m_place m_numbered m_depth m_value m_isNot m_least0 m_most0 m_slot m_work m_got m_rowMany m_charAt m_charWide m_trail m_isMatch m_matchGroups m_allFrom m_allBefore m_founds m_pieces m_writtenMany m_templateWide m_tooMuch) f_MO_279 (Or.inl rfl) d_MO_readGroup_216 h80.2.2 (Nat.le_of_ble_eq_true rfl) (fun _ => ⟨rfl, rfl⟩) (h80.2.1 (by decide)) ?_
                      obtain ⟨G45, eG45⟩ : ∃ z : ab_G, z = List.set G11 80 (ab_ob 12 (mof m_thrown m_taped m_length m_out m_wide m_gathered m_sets m_ranges m_nodes (m_at + (k213 + 1)) m_flags m_fault m_place m_numbered m_depth m_value m_isNot m_least0 m_most0 m_slot m_work m_got m_rowMany m_charAt m_charWide m_trail m_isMatch m_matchGroups m_allFrom m_allBefore m_founds m_pieces m_writtenMany m_templateWide m_tooMuch)) := ⟨_, rfl⟩
                      have h84 := h84.keep h80 eG45 (by decide)
                      have h87 := h87.keep h80 eG45 (by decide)
                      have h88 := h88.keep h80 eG45 (by decide)
                      have h93 := h93.keep h80 eG45 (by decide)
                      have h81 := h81.keep h80 eG45 (by decide)
                      have h82 := h82.keep h80 eG45 (by decide)
                      have h91 := h91.keep h80 eG45 (by decide)
                      have h92 := h92.keep h80 eG45 (by decide)
                      have h110 := h110.keep h80 eG45 (by decide)
                      have h111 := h111.keep h80 eG45 (by decide)
                      have hst := (fx.rf (o := o) (S := [280]) (G := G11)).wr h80 eG45 (List.mem_singleton.mpr rfl)
                      have ptrI_0 := trI.fr hst ptrI_0 (by decide) (by decide) (by decide) (by decide) (by decide) (by decide) (by decide) (by decide) (by decide) (by decide) (by decide) (by decide) (by decide) (by decide) (by decide) (by decide) (by decide) (by decide)
                      have hlen := (z_len eG45).trans hlen
                      have hsl := (z_sl h80 eG45 rfl).trans hsl
                      have hfr := hfr.wr h80 eG45 (by decide)
                      have h80 := h80.kept eG45
                      change ab_W _ _ _ (List.set G11 80 (ab_ob 12 (mof m_thrown m_taped m_length m_out m_wide m_gathered m_sets m_ranges m_nodes (m_at + (k213 + 1)) m_flags m_fault m_place m_numbered m_depth m_value m_isNot m_least0 m_most0 m_slot m_work m_got m_rowMany m_charAt m_charWide m_trail m_isMatch m_matchGroups m_allFrom m_allBefore m_founds m_pieces m_writtenMany m_templateWide m_tooMuch))) 219 [some (vR 80), some (vz m_at), some (vz nw212), some (vz k213), some (vz (tpk A_tape m_taped (m_at + k213)))] [] _
                      rw [← eG45]
                      refine ab_iload d_MO_readGroup_219 rfl ?_
                      refine zz_bipush d_MO_readGroup_221 (by decide) ?_
                      refine zz_icmp_ne (tgt := 244) d_MO_readGroup_223 (by decide) (by omega) (by decide) (fun c46 => absurd c46 (by omega)) (fun c46 => ?_)
                      refine ab_aload_n d_MO_readGroup_226 rfl ?_
                      refine ab_iload_n d_MO_readGroup_227 rfl ?_
                      refine ab_putf (fs := mof m_thrown m_taped m_length m_out m_wide m_gathered m_sets m_ranges m_nodes (m_at + (k213 + 1)) m_flags m_fault m_place m_numbered m_depth m_value m_isNot m_least0 m_most0 m_slot m_work m_got m_rowMany m_charAt m_charWide m_trail m_isMatch m_matchGroups m_allFrom m_allBefore m_founds m_pieces m_writtenMany m_templateWide m_tooMuch) f_MO_276 (Or.inl rfl) d_MO_readGroup_228 h80.2.2 (Nat.le_of_ble_eq_true rfl) (fun _ => ⟨rfl, rfl⟩) (h80.2.1 (by decide)) ?_
                      obtain ⟨G47, eG47⟩ : ∃ z : ab_G, z = List.set G45 80 (ab_ob 12 (mof m_thrown m_taped m_length m_out m_wide m_gathered m_sets m_ranges m_nodes (m_at + (k213 + 1)) nw212 m_fault m_place m_numbered m_depth m_value m_isNot m_least0 m_most0 m_slot m_work m_got m_rowMany m_charAt m_charWide m_trail m_isMatch m_matchGroups m_allFrom m_allBefore m_founds m_pieces m_writtenMany m_templateWide m_tooMuch)) := ⟨_, rfl⟩
                      have h84 := h84.keep h80 eG47 (by decide)
                      have h87 := h87.keep h80 eG47 (by decide)
                      have h88 := h88.keep h80 eG47 (by decide)
                      have h93 := h93.keep h80 eG47 (by decide)
                      have h81 := h81.keep h80 eG47 (by decide)
                      have h82 := h82.keep h80 eG47 (by decide)
                      have h91 := h91.keep h80 eG47 (by decide)
                      have h92 := h92.keep h80 eG47 (by decide)
                      have h110 := h110.keep h80 eG47 (by decide)
                      have h111 := h111.keep h80 eG47 (by decide)
                      have hst := (fx.rf (o := o) (S := [280]) (G := G45)).wr h80 eG47 (List.mem_singleton.mpr rfl)
                      have ptrI_0 := trI.fr hst ptrI_0 (by decide) (by decide) (by decide) (by decide) (by decide) (by decide) (by decide) (by decide) (by decide) (by decide) (by decide) (by decide) (by decide) (by decide) (by decide) (by decide) (by decide) (by decide)
                      have hlen := (z_len eG47).trans hlen
                      have hsl := (z_sl h80 eG47 rfl).trans hsl
                      have hfr := hfr.wr h80 eG47 (by decide)
                      have h80 := h80.kept eG47
                      change ab_W _ _ _ (List.set G45 80 (ab_ob 12 (mof m_thrown m_taped m_length m_out m_wide m_gathered m_sets m_ranges m_nodes (m_at + (k213 + 1)) nw212 m_fault m_place m_numbered m_depth m_value m_isNot m_least0 m_most0 m_slot m_work m_got m_rowMany m_charAt m_charWide m_trail m_isMatch m_matchGroups m_allFrom m_allBefore m_founds m_pieces m_writtenMany m_templateWide m_tooMuch))) 231 [some (vR 80), some (vz m_at), some (vz nw212), some (vz k213), some (vz (tpk A_tape m_taped (m_at + k213)))] [] _
                      rw [← eG47]
                      obtain ⟨K, O, Fi, Be, Le, Mo, Z, LZ, SM, SA, QF, QL, AF, AL, SD, OA, OF, ON, h94, h95, h96, h97, h98, h99, h100, h101, h90, h89, h105, h106, h107, h108, h109, h102, h103, h104, jk, jo, jfi, jbe, jle, jmo, jz, jlz, jsm, jsa, jqf, jql, jaf, jal, jsd, joa, jof, jon, jt, cnd, cre, crs, crz, ck5, ck6, ck7, jss, jsv⟩ := ptrI_0
                      refine ab_aload_n d_MO_readGroup_231 rfl ?_
                      refine ab_aload_n d_MO_readGroup_232 rfl ?_
                      refine zz_iconst d_MO_readGroup_233 ?_
                      refine zz_iconst d_MO_readGroup_234 ?_
                      refine zz_lconst d_MO_readGroup_235 ?_
                      change ab_W _ _ _ G47 236 [some (vR 80), some (vz m_at), some (vz nw212), some (vz k213), some (vz (tpk A_tape m_taped (m_at + k213)))] [vj 0, vz 0, vz 0, vR 80, vR 80] _
                      refine ab_callV (d' := d - 1) (as := [vz 0, vz 0, vj 0]) (st := [vR 80]) (r := _) (z_MO_node (o := o) (m_thrown := m_thrown) (m_taped := m_taped) (m_length := m_length) (m_out := m_out) (m_wide := m_wide) (m_gathered := m_gathered) (m_sets := m_sets) (m_ranges := m_ranges) (m_nodes := m_nodes) (m_at := (m_at + (k213 + 1))) (m_flags := nw212) (m_fault := m_fault) (m_place := m_place) (m_numbered := m_numbered) (m_depth := m_depth) (m_value := m_value) (m_isNot := m_isNot) (m_least0 := m_least0) (m_most0 := m_most0) (m_slot := m_slot) (m_work := m_work) (m_got := m_got) (m_rowMany := m_rowMany) (m_charAt := m_charAt) (m_charWide := m_charWide) (m_trail := m_trail) (m_isMatch := m_isMatch) (m_matchGroups := m_matchGroups) (m_allFrom := m_allFrom) (m_allBefore := m_allBefore) (m_founds := m_founds) (m_pieces := m_pieces) (m_writtenMany := m_writtenMany) (m_templateWide := m_templateWide) (m_tooMuch := m_tooMuch) (K := K) (O := O) (Fi := Fi) (Be := Be) (Z := Z) (k := 0) (w := 0) (zs := 0) h80 h94 h95 h96 h97 h100 (by omega) (by omega)) (fun oc G2 h => by rcases h with ⟨h, _⟩ <;> exact ⟨_, h⟩) (by omega) m_MO_node ml_MO_269 im_MO_node se_MO_node c_MO h80.2.2 (Nat.le_of_ble_eq_true rfl) d_MO_readGroup_236 rfl ?_
                      intro v G48 hq
                      rcases hq with ⟨hv, hfk, hlk, hsk, hN80, hN94, hN95, hN96, hN97, hN100⟩
                      cases hv
                      have h84 := hfk.get h84 (by decide)
                      have h87 := hfk.get h87 (by decide)
                      have h88 := hfk.get h88 (by decide)
                      have h93 := hfk.get h93 (by decide)
                      have h81 := hfk.get h81 (by decide)
                      have h82 := hfk.get h82 (by decide)
                      have h91 := hfk.get h91 (by decide)
                      have h92 := hfk.get h92 (by decide)
                      have h110 := hfk.get h110 (by decide)
                      have h111 := hfk.get h111 (by decide)
                      have h98 := hfk.get h98 (by decide)
                      have h99 := hfk.get h99 (by decide)
                      have h101 := hfk.get h101 (by decide)
                      have h90 := hfk.get h90 (by decide)
                      have h89 := hfk.get h89 (by decide)
                      have h105 := hfk.get h105 (by decide)
                      have h106 := hfk.get h106 (by decide)
                      have h107 := hfk.get h107 (by decide)
                      have h108 := hfk.get h108 (by decide)
                      have h109 := hfk.get h109 (by decide)
                      have h102 := hfk.get h102 (by decide)
                      have h103 := hfk.get h103 (by decide)
                      have h104 := hfk.get h104 (by decide)
                      have hfr := hfr.tr hfk (by decide)
                      have hlen := hlk.trans hlen
                      have hsl := hsk.trans hsl
                      have h80 := hN80
                      have h94 := hN94
                      have h95 := hN95
                      have h96 := hN96
                      have h97 := hN97
                      have h100 := hN100
                      change ab_W _ _ _ G48 239 [some (vR 80), some (vz m_at), some (vz nw212), some (vz k213), some (vz (tpk A_tape m_taped (m_at + k213)))] [vz m_nodes, vR 80] _
                      have ptrI_0 : trI o G48 0 (m_nodes + 1) m_sets (m_depth + 1) m_nodes 0 6 ((a1_, b1_, c1_, d1_, e1_) :: t1_) rp ls 0 SV ((ao1_, ro1_) :: ts1_) ro vv mnI RL RH m_ranges 0 0 := ⟨(zu K m_nodes 0), (zu O m_nodes 0), (zu Fi m_nodes (-1)), (zu Be m_nodes (-1)), Le, Mo, (zu Z m_nodes 0), LZ, SM, SA, QF, QL, AF, AL, SD, OA, OF, ON, h94, h95, h96, h97, h98, h99, h100, h101, h90, h89, h105, h106, h107, h108, h109, h102, h103, h104, (rgs_zu jk (by omega)), (rgs_zu jo (by omega)), (rgs_zu jfi (by omega)), (rgs_zu jbe (by omega)), jle, jmo, (rgs_zu jz (by omega)), jlz, jsm, jsa, jqf, jql, jaf, jal, jsd, joa, jof, jon, (rtk_leaf jt (by omega) (Or.inl ⟨rfl, rfl⟩) (Or.inl ⟨rfl, rfl⟩)), (by omega), (fun h => absurd h (by decide)), (fun h => absurd h (by decide)), (fun h => absurd h (by decide)), (fun h => absurd h (by decide)), (fun _ => by rw [zu_self]; decide), (fun h => absurd h (by decide)), jss, jsv⟩
                      refine zz_iconst d_MO_readGroup_239 ?_
                      refine ab_callV (d' := d - 1) (as := [vz m_nodes, vz 2]) (st := []) (r := _) (z2_MO_part (o := o) (m_thrown := m_thrown) (m_taped := m_taped) (m_length := m_length) (m_out := m_out) (m_wide := m_wide) (m_gathered := m_gathered) (m_sets := m_sets) (m_ranges := m_ranges) (m_nodes := (m_nodes + 1)) (m_at := (m_at + (k213 + 1))) (m_flags := nw212) (m_fault := m_fault) (m_place := m_place) (m_numbered := m_numbered) (m_depth := m_depth) (m_value := m_value) (m_isNot := m_isNot) (m_least0 := m_least0) (m_most0 := m_most0) (m_slot := m_slot) (m_work := m_work) (m_got := m_got) (m_rowMany := m_rowMany) (m_charAt := m_charAt) (m_charWide := m_charWide) (m_trail := m_trail) (m_isMatch := m_isMatch) (m_matchGroups := m_matchGroups) (m_allFrom := m_allFrom) (m_allBefore := m_allBefore) (m_founds := m_founds) (m_pieces := m_pieces) (m_writtenMany := m_writtenMany) (m_templateWide := m_templateWide) (m_tooMuch := m_tooMuch) (x := m_nodes) (dh := 0) (rp := rp) (ls := ls) (dz := 0) (SV := SV) (ro := ro) (vv := vv) (dv := mnI) (a1_ := a1_) (b1_ := b1_) (c1_ := c1_) (d1_ := d1_) (e1_ := e1_) (nu9 := 0) (fo9 := 0) (t1_ := t1_) (ao1_ := ao1_) (ro1_ := ro1_) (ts1_ := ts1_) (RL := RL) (RH := RH) h80 ptrI_0 (by omega) (by omega) (by omega) (by omega)) (fun oc G2 h => by rcases h with ⟨h, _⟩ <;> exact ⟨_, h⟩) (by omega) m_MO_part ml_MO_375 im_MO_part se_MO_part c_MO h80.2.2 (Nat.le_of_ble_eq_true rfl) d_MO_readGroup_240 rfl ?_
                      intro v G49 hq
                      rcases hq with ⟨hv, hfk, hlk, hsk, pNtrI_0⟩
                      cases hv
                      have h80 := hfk.get h80 (by decide)
                      have h84 := hfk.get h84 (by decide)
                      have h87 := hfk.get h87 (by decide)
                      have h88 := hfk.get h88 (by decide)
                      have h93 := hfk.get h93 (by decide)
                      have h81 := hfk.get h81 (by decide)
                      have h82 := hfk.get h82 (by decide)
                      have h91 := hfk.get h91 (by decide)
                      have h92 := hfk.get h92 (by decide)
                      have h110 := hfk.get h110 (by decide)
                      have h111 := hfk.get h111 (by decide)
                      have ptrI_0 := pNtrI_0
                      have hfr := hfr.tr hfk (by decide)
                      have hlen := hlk.trans hlen
                      have hsl := hsk.trans hsl
                      change ab_W _ _ _ G49 243 [some (vR 80), some (vz m_at), some (vz nw212), some (vz k213), some (vz (tpk A_tape m_taped (m_at + k213)))] [] _
                      refine ab_vret rfl d_MO_readGroup_243 ?_
                      rw [hQ]; exact (Or.inl ⟨_, _, _, _, _, _, _, _, _, _, _, _, _, _, _, _, _, _, _, _, _, _, ((a1_, b1_, c1_, d1_, (e1_ + 0)) :: t1_), 0, 0, SV, ((ao1_, (mnC ro1_ mnI)) :: ts1_), mnI, mnI, na, nl, rfl, hfr, hlen, hsl, h80, h87, h88, h93, h91, h92, h110, h111, ptrI_0, (by omega), (by first | exact jmk | exact rgs_w jmk (by omega)), (by first | exact jrl | exact rgs_w jrl (by omega)), (by first | exact jrh | exact rgs_w jrh (by omega)), (by first | exact jns | exact rgs_w jns (by omega)), (by first | exact jnm | exact rgs_w jnm (by omega)), (by omega), (by exact jnj), (by rw [show (m_at + (k213 + 1)) = (m_at + k213) + 1 by omega]; rw [Int.add_zero]; exact sb_flag (by omega) (by omega) (by omega) ⟨_, _, _, flgS_end hq18 hkq7 (by omega), by omega, (by first | (rw [fland_0 (by omega)]; exact hq17) | rw [fland_0 (by omega)])⟩ (by omega)), (by exact ss_flag (by omega) rfl)⟩)
                    · refine ab_aload_n d_MO_readGroup_166 rfl ?_
                      refine zz_bipush d_MO_readGroup_167 (by decide) ?_
                      refine ab_iload_n d_MO_readGroup_169 rfl ?_
                      refine ab_callV (d' := d - 1) (as := [vz 10, vz m_at]) (st := []) (r := _) (z_MO_wrong (o := o) (m_thrown := m_thrown) (m_taped := m_taped) (m_length := m_length) (m_out := m_out) (m_wide := m_wide) (m_gathered := m_gathered) (m_sets := m_sets) (m_ranges := m_ranges) (m_nodes := m_nodes) (m_at := m_at) (m_flags := m_flags) (m_fault := m_fault) (m_place := m_place) (m_numbered := m_numbered) (m_depth := m_depth) (m_value := m_value) (m_isNot := m_isNot) (m_least0 := m_least0) (m_most0 := m_most0) (m_slot := m_slot) (m_work := m_work) (m_got := m_got) (m_rowMany := m_rowMany) (m_charAt := m_charAt) (m_charWide := m_charWide) (m_trail := m_trail) (m_isMatch := m_isMatch) (m_matchGroups := m_matchGroups) (m_allFrom := m_allFrom) (m_allBefore := m_allBefore) (m_founds := m_founds) (m_pieces := m_pieces) (m_writtenMany := m_writtenMany) (m_templateWide := m_templateWide) (m_tooMuch := m_tooMuch) (x := 10) (y := m_at) h80 (by omega) (by omega)) (fun oc G2 h => by rcases h with ⟨h, _⟩ | ⟨h, _⟩ <;> exact ⟨_, h⟩) (by omega) m_MO_wrong ml_MO_304 im_MO_wrong se_MO_wrong c_MO h80.2.2 (Nat.le_of_ble_eq_true rfl) d_MO_readGroup_170 rfl ?_
                      intro v G50 hq
                      rcases hq with ⟨hv, hfk, hlk, hsk, hN80, hq51⟩ | ⟨hv, hGe, hq52⟩
                      · cases hv
                        have h84 := hfk.get h84 (by decide)
                        have h87 := hfk.get h87 (by decide)
                        have h88 := hfk.get h88 (by decide)
                        have h93 := hfk.get h93 (by decide)
                        have h81 := hfk.get h81 (by decide)
                        have h82 := hfk.get h82 (by decide)
                        have h91 := hfk.get h91 (by decide)
                        have h92 := hfk.get h92 (by decide)
                        have h110 := hfk.get h110 (by decide)
                        have h111 := hfk.get h111 (by decide)
                        have ptrI_0 := trI.fr hfk ptrI_0 (by decide) (by decide) (by decide) (by decide) (by decide) (by decide) (by decide) (by decide) (by decide) (by decide) (by decide) (by decide) (by decide) (by decide) (by decide) (by decide) (by decide) (by decide)
                        have hfr := hfr.tr hfk (by decide)
                        have hlen := hlk.trans hlen
                        have hsl := hsk.trans hsl
                        have h80 := hN80
                        change ab_W _ _ _ G50 173 [some (vR 80), some (vz m_at), some (vz nw212), some (vz k213), some (vz (tpk A_tape m_taped (m_at + k213)))] [] _
                        refine ab_goto (tgt := 199) d_MO_readGroup_173 (by decide) ?_
                        refine ab_aload_n d_MO_readGroup_199 rfl ?_
                        refine ab_getf (fs := mof m_thrown m_taped m_length m_out m_wide m_gathered m_sets m_ranges m_nodes m_at m_flags 10 m_at m_numbered m_depth m_value m_isNot m_least0 m_most0 m_slot m_work m_got m_rowMany m_charAt m_charWide m_trail m_isMatch m_matchGroups m_allFrom m_allBefore m_founds m_pieces m_writtenMany m_templateWide m_tooMuch) f_MO_273 d_MO_readGroup_200 h80.2.2 rfl ?_
                        refine zz_if_le (tgt := 207) d_MO_readGroup_203 (by decide) (by decide) (fun c53 => absurd c53 (by decide)) (fun c53 => ?_)
                        refine ab_vret rfl d_MO_readGroup_206 ?_
                        rw [hQ]; exact (Or.inr ⟨_, _, _, _, _, _, _, _, _, _, _, _, _, _, _, _, _, _, _, _, _, _, ((a1_, b1_, c1_, d1_, e1_) :: t1_), rp, ls, SV, ((ao1_, ro1_) :: ts1_), ro, vv, rfl, hfr, hlen, hsl, h80, h87, h88, h93, h91, h92, h110, h111, ptrI_0, (by omega), (by first | exact jmk | exact rgs_w jmk (by omega)), (by first | exact jrl | exact rgs_w jrl (by omega)), (by first | exact jrh | exact rgs_w jrh (by omega)), (by first | exact jns | exact rgs_w jns (by omega)), (by first | exact jnm | exact rgs_w jnm (by omega)), (by exact sf_o (by omega) (of_f (by omega) (by omega) (Or.inl (flgS_bad hq18 hkq7 (by omega) hq19 (by omega)))))⟩)
                      · cases hv
                        rw [hGe]
                        change ab_W _ _ _ G11 173 [some (vR 80), some (vz m_at), some (vz nw212), some (vz k213), some (vz (tpk A_tape m_taped (m_at + k213)))] [] _
                        exfalso; omega
                · cases hv
                  rw [hGe]
                  change ab_W _ _ _ G11 150 [some (vR 80), some (vz m_at), some (vz nw212), some (vz k213), none] [vz (-1)] _
                  exfalso; omega
              · refine zz_iinc d_MO_readGroup_94 rfl (Nat.le_of_ble_eq_true rfl) (Nat.le_of_ble_eq_true rfl) rfl ?_
                change ab_W _ _ _ G11 97 [some (vR 80), some (vz m_at), some (vz nw212), some (vz (k213 + 1)), none] [] _
                have hfm_ := flgS_minus hq18 hkq8 (by omega) hq19 (by omega)
                rw [show m_at + k213 + 1 = m_at + (k213 + 1) by omega] at hfm_
                refine ab_aload_n d_MO_readGroup_97 rfl ?_
                refine ab_iload_n d_MO_readGroup_98 rfl ?_
                refine ab_callV (d' := d - 1) (as := [vz (k213 + 1)]) (st := []) (r := _) (z_MO_here (o := o) (m_thrown := m_thrown) (m_taped := m_taped) (m_length := m_length) (m_out := m_out) (m_wide := m_wide) (m_gathered := m_gathered) (m_sets := m_sets) (m_ranges := m_ranges) (m_nodes := m_nodes) (m_at := m_at) (m_flags := m_flags) (m_fault := m_fault) (m_place := m_place) (m_numbered := m_numbered) (m_depth := m_depth) (m_value := m_value) (m_isNot := m_isNot) (m_least0 := m_least0) (m_most0 := m_most0) (m_slot := m_slot) (m_work := m_work) (m_got := m_got) (m_rowMany := m_rowMany) (m_charAt := m_charAt) (m_charWide := m_charWide) (m_trail := m_trail) (m_isMatch := m_isMatch) (m_matchGroups := m_matchGroups) (m_allFrom := m_allFrom) (m_allBefore := m_allBefore) (m_founds := m_founds) (m_pieces := m_pieces) (m_writtenMany := m_writtenMany) (m_templateWide := m_templateWide) (m_tooMuch := m_tooMuch) (A_tape := A_tape) (k := (k213 + 1)) (qh := (m_at + k213 + 1)) h80 h84 (by omega) (by omega) jtp (by omega) (by omega)) (fun oc G2 h => by rcases h with ⟨h, _⟩ | ⟨h, _⟩ <;> exact ⟨_, h⟩) (by omega) m_MO_here ml_MO_297 im_MO_here se_MO_here c_MO h80.2.2 (Nat.le_of_ble_eq_true rfl) d_MO_readGroup_99 rfl ?_
                intro v G54 hq
                rcases hq with ⟨hv, hGe, hq55⟩ | ⟨hv, hGe, hq56, hq57⟩
                · cases hv
                  rw [hGe]
                  change ab_W _ _ _ G11 102 [some (vR 80), some (vz m_at), some (vz nw212), some (vz (k213 + 1)), none] [vz (tpk A_tape m_taped (m_at + k213 + 1))] _
                  refine ab_callS (d' := d - 1) (as := [vz (tpk A_tape m_taped (m_at + k213 + 1))]) (st := []) (z_MO_flagOf (o := o) (c := (tpk A_tape m_taped (m_at + k213 + 1))) (by omega)) (fun oc G2 h => by rcases h with ⟨_, h, _⟩ <;> exact ⟨_, h⟩) (by omega) m_MO_flagOf ml_MO_389 st_MO_flagOf (Nat.le_of_ble_eq_true rfl) d_MO_readGroup_102 rfl ?_
                  intro v G58 hq
                  rcases hq with ⟨v59, hv, hGe, hq60, hq61, hq62, hq63⟩
                  cases hv
                  rw [hGe]
                  change ab_W _ _ _ G11 105 [some (vR 80), some (vz m_at), some (vz nw212), some (vz (k213 + 1)), none] [vz v59] _
                  refine zz_if_ne (tgt := 115) d_MO_readGroup_105 (by decide) (by omega) (fun c64 => ?_) (fun c64 => ?_)
                  · refine y_MO_readGroup_115 (m_thrown := m_thrown) (m_taped := m_taped) (m_length := m_length) (m_out := m_out) (m_wide := m_wide) (m_gathered := m_gathered) (m_sets := m_sets) (m_ranges := m_ranges) (m_nodes := m_nodes) (m_at := m_at) (m_flags := m_flags) (m_fault := m_fault) (m_place := m_place) (m_numbered := m_numbered) (m_depth := m_depth) (m_value := m_value) (m_isNot := m_isNot) (m_least0 := m_least0) (m_most0 := m_most0) (m_slot := m_slot) (m_work := m_work) (m_got := m_got) (m_rowMany := m_rowMany) (m_charAt := m_charAt) (m_charWide := m_charWide) (m_trail := m_trail) (m_isMatch := m_isMatch) (m_matchGroups := m_matchGroups) (m_allFrom := m_allFrom) (m_allBefore := m_allBefore) (m_founds := m_founds) (m_pieces := m_pieces) (m_writtenMany := m_writtenMany) (m_templateWide := m_templateWide) (m_tooMuch := m_tooMuch) (A_tape := A_tape) (wh := m_at) (on := on214) (fb := 1) (r0 := (flgS A_tape m_taped (Int.toNat (m_taped + 3)) (m_at + 2) 0 0 0)) (G0 := G11) (nw := nw212) (k := (k213 + 1)) (of := 0) (kr := kq8) (by omega) jtp (by omega) (by omega) (by omega) (by omega) (Int.toNat (m_taped - m_at - (k213 + 1)) + 1) h80 h84 (by omega) (by rw [fland_0 (by omega)]; exact hq17) hfm_ (by rw [show m_at + (k213 + 1) = m_at + k213 + 1 by omega]; right; exact ⟨rfl, Or.inr (by omega)⟩) fx.rf rfl rfl (by omega) (fun G65 nw266 k267 of268 kr269 hq70 hq71 hq72 hq73 hq74 hfk hlk hsk => ?_)
                    · have h80 := hfk.get h80 (by decide)
                      have h84 := hfk.get h84 (by decide)
                      have h87 := hfk.get h87 (by decide)
                      have h88 := hfk.get h88 (by decide)
                      have h93 := hfk.get h93 (by decide)
                      have h81 := hfk.get h81 (by decide)
                      have h82 := hfk.get h82 (by decide)
                      have h91 := hfk.get h91 (by decide)
                      have h92 := hfk.get h92 (by decide)
                      have h110 := hfk.get h110 (by decide)
                      have h111 := hfk.get h111 (by decide)
                      have ptrI_0 := trI.fr hfk ptrI_0 (by decide) (by decide) (by decide) (by decide) (by decide) (by decide) (by decide) (by decide) (by decide) (by decide) (by decide) (by decide) (by decide) (by decide) (by decide) (by decide) (by decide) (by decide)
                      have hfr := hfr.tr hfk (by decide)
                      have hlen := hlk.trans hlen
                      have hsl := hsk.trans hsl
                      change ab_W _ _ _ G65 145 [some (vR 80), some (vz m_at), some (vz nw266), some (vz k267), none] [] _
                      obtain ⟨kq7, hkq7⟩ : ∃ z : Nat, kr269 = z + 1 := ⟨kr269 - 1, by omega⟩
                      refine ab_aload_n d_MO_readGroup_145 rfl ?_
                      refine ab_iload_n d_MO_readGroup_146 rfl ?_
                      refine ab_callV (d' := d - 1) (as := [vz k267]) (st := []) (r := _) (z_MO_here (o := o) (m_thrown := m_thrown) (m_taped := m_taped) (m_length := m_length) (m_out := m_out) (m_wide := m_wide) (m_gathered := m_gathered) (m_sets := m_sets) (m_ranges := m_ranges) (m_nodes := m_nodes) (m_at := m_at) (m_flags := m_flags) (m_fault := m_fault) (m_place := m_place) (m_numbered := m_numbered) (m_depth := m_depth) (m_value := m_value) (m_isNot := m_isNot) (m_least0 := m_least0) (m_most0 := m_most0) (m_slot := m_slot) (m_work := m_work) (m_got := m_got) (m_rowMany := m_rowMany) (m_charAt := m_charAt) (m_charWide := m_charWide) (m_trail := m_trail) (m_isMatch := m_isMatch) (m_matchGroups := m_matchGroups) (m_allFrom := m_allFrom) (m_allBefore := m_allBefore) (m_founds := m_founds) (m_pieces := m_pieces) (m_writtenMany := m_writtenMany) (m_templateWide := m_templateWide) (m_tooMuch := m_tooMuch) (A_tape := A_tape) (k := k267) (qh := (m_at + k267)) h80 h84 (by omega) (by omega) jtp (by omega) (by omega)) (fun oc G2 h => by rcases h with ⟨h, _⟩ | ⟨h, _⟩ <;> exact ⟨_, h⟩) (by omega) m_MO_here ml_MO_297 im_MO_here se_MO_here c_MO h80.2.2 (Nat.le_of_ble_eq_true rfl) d_MO_readGroup_147 rfl ?_
                      intro v G75 hq
                      rcases hq with ⟨hv, hGe, hq76⟩ | ⟨hv, hGe, hq77, hq78⟩
                      · cases hv
                        rw [hGe]
                        change ab_W _ _ _ G65 150 [some (vR 80), some (vz m_at), some (vz nw266), some (vz k267), none] [vz (tpk A_tape m_taped (m_at + k267))] _
                        refine ab_istore d_MO_readGroup_150 (Nat.le_of_ble_eq_true rfl) (Nat.le_of_ble_eq_true rfl) rfl ?_
                        change ab_W _ _ _ G65 152 [some (vR 80), some (vz m_at), some (vz nw266), some (vz k267), some (vz (tpk A_tape m_taped (m_at + k267)))] [] _
                        refine ab_iload d_MO_readGroup_152 rfl ?_
                        refine zz_bipush d_MO_readGroup_154 (by decide) ?_
                        refine zz_icmp_eq (tgt := 176) d_MO_readGroup_156 (by decide) (by omega) (by decide) (fun c79 => ?_) (fun c79 => ?_)
                        · refine ab_iload d_MO_readGroup_176 rfl ?_
                          refine zz_bipush d_MO_readGroup_178 (by decide) ?_
                          refine zz_icmp_ne (tgt := 199) d_MO_readGroup_180 (by decide) (by omega) (by decide) (fun c80 => absurd c80 (by omega)) (fun c80 => ?_)
                          refine ab_aload_n d_MO_readGroup_183 rfl ?_
                          refine ab_getf (fs := mof m_thrown m_taped m_length m_out m_wide m_gathered m_sets m_ranges m_nodes m_at m_flags m_fault m_place m_numbered m_depth m_value m_isNot m_least0 m_most0 m_slot m_work m_got m_rowMany m_charAt m_charWide m_trail m_isMatch m_matchGroups m_allFrom m_allBefore m_founds m_pieces m_writtenMany m_templateWide m_tooMuch) f_MO_282 d_MO_readGroup_184 h80.2.2 rfl ?_
                          refine zz_bipush d_MO_readGroup_187 (by decide) ?_
                          refine zz_icmp_ne (tgt := 199) d_MO_readGroup_189 (by decide) (by omega) (by decide) (fun c81 => ?_) (fun c81 => ?_)
                          · refine ab_aload_n d_MO_readGroup_199 rfl ?_
                            refine ab_getf (fs := mof m_thrown m_taped m_length m_out m_wide m_gathered m_sets m_ranges m_nodes m_at m_flags m_fault m_place m_numbered m_depth m_value m_isNot m_least0 m_most0 m_slot m_work m_got m_rowMany m_charAt m_charWide m_trail m_isMatch m_matchGroups m_allFrom m_allBefore m_founds m_pieces m_writtenMany m_templateWide m_tooMuch) f_MO_273 d_MO_readGroup_200 h80.2.2 rfl ?_
                            refine zz_if_le (tgt := 207) d_MO_readGroup_203 (by decide) (by omega) (fun c82 => ?_) (fun c82 => absurd c82 (by omega))
                            refine ab_aload_n d_MO_readGroup_207 rfl ?_
                            refine ab_dup d_MO_readGroup_208 rfl ?_
                            refine ab_getf (fs := mof m_thrown m_taped m_length m_out m_wide m_gathered m_sets m_ranges m_nodes m_at m_flags m_fault m_place m_numbered m_depth m_value m_isNot m_least0 m_most0 m_slot m_work m_got m_rowMany m_charAt m_charWide m_trail m_isMatch m_matchGroups m_allFrom m_allBefore m_founds m_pieces m_writtenMany m_templateWide m_tooMuch) f_MO_279 d_MO_readGroup_209 h80.2.2 rfl ?_
                            refine ab_iload_n d_MO_readGroup_212 rfl ?_
                            refine zz_iconst d_MO_readGroup_213 ?_
                            refine zz_iadd d_MO_readGroup_214 ?_
                            refine zz_iadd d_MO_readGroup_215 ?_
                            refine ab_putf (fs := mof m_thrown m_taped m_length m_out m_wide m_gathered m_sets m_ranges m_nodes m_at m_flags m_fault m_place m_numbered m_depth m_value m_isNot m_least0 m_most0 m_slot m_work m_got m_rowMany m_charAt m_charWide m_trail m_isMatch m_matchGroups m_allFrom m_allBefore m_founds m_pieces m_writtenMany m_templateWide m_tooMuch) f_MO_279 (Or.inl rfl) d_MO_readGroup_216 h80.2.2 (Nat.le_of_ble_eq_true rfl) (fun _ => ⟨rfl, rfl⟩) (h80.2.1 (by decide)) ?_
                            obtain ⟨G83, eG83⟩ : ∃ z : ab_G, z = List.set G65 80 (ab_ob 12 (mof m_thrown m_taped m_length m_out m_wide m_gathered m_sets m_ranges m_nodes (m_at + (k267 + 1)) m_flags m_fault m_place m_numbered m_depth m_value m_isNot m_least0 m_most0 m_slot m_work m_got m_rowMany m_charAt m_charWide m_trail m_isMatch m_matchGroups m_allFrom m_allBefore m_founds m_pieces m_writtenMany m_templateWide m_tooMuch)) := ⟨_, rfl⟩
                            have h84 := h84.keep h80 eG83 (by decide)
                            have h87 := h87.keep h80 eG83 (by decide)
                            have h88 := h88.keep h80 eG83 (by decide)
                            have h93 := h93.keep h80 eG83 (by decide)
                            have h81 := h81.keep h80 eG83 (by decide)
                            have h82 := h82.keep h80 eG83 (by decide)
                            have h91 := h91.keep h80 eG83 (by decide)
                            have h92 := h92.keep h80 eG83 (by decide)
                            have h110 := h110.keep h80 eG83 (by decide)
                            have h111 := h111.keep h80 eG83 (by decide)
                            have hst := (fx.rf (o := o) (S := [280]) (G := G65)).wr h80 eG83 (List.mem_singleton.mpr rfl)
                            have ptrI_0 := trI.fr hst ptrI_0 (by decide) (by decide) (by decide) (by decide) (by decide) (by decide) (by decide) (by decide) (by decide) (by decide) (by decide) (by decide) (by decide) (by decide) (by decide) (by decide) (by decide) (by decide)
                            have hlen := (z_len eG83).trans hlen
                            have hsl := (z_sl h80 eG83 rfl).trans hsl
                            have hfr := hfr.wr h80 eG83 (by decide)
                            have h80 := h80.kept eG83
                            change ab_W _ _ _ (List.set G65 80 (ab_ob 12 (mof m_thrown m_taped m_length m_out m_wide m_gathered m_sets m_ranges m_nodes (m_at + (k267 + 1)) m_flags m_fault m_place m_numbered m_depth m_value m_isNot m_least0 m_most0 m_slot m_work m_got m_rowMany m_charAt m_charWide m_trail m_isMatch m_matchGroups m_allFrom m_allBefore m_founds m_pieces m_writtenMany m_templateWide m_tooMuch))) 219 [some (vR 80), some (vz m_at), some (vz nw266), some (vz k267), some (vz (tpk A_tape m_taped (m_at + k267)))] [] _
                            rw [← eG83]
                            refine ab_iload d_MO_readGroup_219 rfl ?_
                            refine zz_bipush d_MO_readGroup_221 (by decide) ?_
                            refine zz_icmp_ne (tgt := 244) d_MO_readGroup_223 (by decide) (by omega) (by decide) (fun c84 => ?_) (fun c84 => absurd c84 (by omega))
                            refine ab_aload_n d_MO_readGroup_244 rfl ?_
                            refine ab_dup d_MO_readGroup_245 rfl ?_
                            refine ab_getf (fs := mof m_thrown m_taped m_length m_out m_wide m_gathered m_sets m_ranges m_nodes (m_at + (k267 + 1)) m_flags m_fault m_place m_numbered m_depth m_value m_isNot m_least0 m_most0 m_slot m_work m_got m_rowMany m_charAt m_charWide m_trail m_isMatch m_matchGroups m_allFrom m_allBefore m_founds m_pieces m_writtenMany m_templateWide m_tooMuch) f_MO_282 d_MO_readGroup_246 h80.2.2 rfl ?_
                            refine zz_iconst d_MO_readGroup_249 ?_
                            refine zz_iadd d_MO_readGroup_250 ?_
                            refine ab_putf (fs := mof m_thrown m_taped m_length m_out m_wide m_gathered m_sets m_ranges m_nodes (m_at + (k267 + 1)) m_flags m_fault m_place m_numbered m_depth m_value m_isNot m_least0 m_most0 m_slot m_work m_got m_rowMany m_charAt m_charWide m_trail m_isMatch m_matchGroups m_allFrom m_allBefore m_founds m_pieces m_writtenMany m_templateWide m_tooMuch) f_MO_282 (Or.inl rfl) d_MO_readGroup_251 h80.2.2 (Nat.le_of_ble_eq_true rfl) (fun _ => ⟨rfl, rfl⟩) (h80.2.1 (by decide)) ?_
                            obtain ⟨G85, eG85⟩ : ∃ z : ab_G, z = List.set G83 80 (ab_ob 12 (mof m_thrown m_taped m_length m_out m_wide m_gathered m_sets m_ranges m_nodes (m_at + (k267 + 1)) m_flags m_fault m_place m_numbered (m_depth + 1) m_value m_isNot m_least0 m_most0 m_slot m_work m_got m_rowMany m_charAt m_charWide m_trail m_isMatch m_matchGroups m_allFrom m_allBefore m_founds m_pieces m_writtenMany m_templateWide m_tooMuch)) := ⟨_, rfl⟩
                            have h84 := h84.keep h80 eG85 (by decide)
                            have h87 := h87.keep h80 eG85 (by decide)
                            have h88 := h88.keep h80 eG85 (by decide)
                            have h93 := h93.keep h80 eG85 (by decide)
                            have h81 := h81.keep h80 eG85 (by decide)
                            have h82 := h82.keep h80 eG85 (by decide)
                            have h91 := h91.keep h80 eG85 (by decide)
                            have h92 := h92.keep h80 eG85 (by decide)
                            have h110 := h110.keep h80 eG85 (by decide)
                            have h111 := h111.keep h80 eG85 (by decide)
                            have hst := (fx.rf (o := o) (S := [280]) (G := G83)).wr h80 eG85 (List.mem_singleton.mpr rfl)
                            have ptrI_0 := trI.fr hst ptrI_0 (by decide) (by decide) (by decide) (by decide) (by decide) (by decide) (by decide) (by decide) (by decide) (by decide) (by decide) (by decide) (by decide) (by decide) (by decide) (by decide) (by decide) (by decide)
                            have hlen := (z_len eG85).trans hlen
                            have hsl := (z_sl h80 eG85 rfl).trans hsl
                            have hfr := hfr.wr h80 eG85 (by decide)
                            have h80 := h80.kept eG85
                            change ab_W _ _ _ (List.set G83 80 (ab_ob 12 (mof m_thrown m_taped m_length m_out m_wide m_gathered m_sets m_ranges m_nodes (m_at + (k267 + 1)) m_flags m_fault m_place m_numbered (m_depth + 1) m_value m_isNot m_least0 m_most0 m_slot m_work m_got m_rowMany m_charAt m_charWide m_trail m_isMatch m_matchGroups m_allFrom m_allBefore m_founds m_pieces m_writtenMany m_templateWide m_tooMuch))) 254 [some (vR 80), some (vz m_at), some (vz nw266), some (vz k267), some (vz (tpk A_tape m_taped (m_at + k267)))] [] _
                            rw [← eG85]
                            refine ab_aload_n d_MO_readGroup_254 rfl ?_
                            refine ab_iload_n d_MO_readGroup_255 rfl ?_
                            refine ab_aload_n d_MO_readGroup_256 rfl ?_
                            refine ab_getf (fs := mof m_thrown m_taped m_length m_out m_wide m_gathered m_sets m_ranges m_nodes (m_at + (k267 + 1)) m_flags m_fault m_place m_numbered (m_depth + 1) m_value m_isNot m_least0 m_most0 m_slot m_work m_got m_rowMany m_charAt m_charWide m_trail m_isMatch m_matchGroups m_allFrom m_allBefore m_founds m_pieces m_writtenMany m_templateWide m_tooMuch) f_MO_276 d_MO_readGroup_257 h80.2.2 rfl ?_
                            refine zz_iconst d_MO_readGroup_260 ?_
                            refine ab_callV (d' := d - 1) (as := [vz m_at, vz m_flags, vz 0]) (st := []) (r := _) (z_MO_openGroup (o := o) (m_thrown := m_thrown) (m_taped := m_taped) (m_length := m_length) (m_out := m_out) (m_wide := m_wide) (m_gathered := m_gathered) (m_sets := m_sets) (m_ranges := m_ranges) (m_nodes := m_nodes) (m_at := (m_at + (k267 + 1))) (m_flags := m_flags) (m_fault := m_fault) (m_place := m_place) (m_numbered := m_numbered) (m_depth := (m_depth + 1)) (m_value := m_value) (m_isNot := m_isNot) (m_least0 := m_least0) (m_most0 := m_most0) (m_slot := m_slot) (m_work := m_work) (m_got := m_got) (m_rowMany := m_rowMany) (m_charAt := m_charAt) (m_charWide := m_charWide) (m_trail := m_trail) (m_isMatch := m_isMatch) (m_matchGroups := m_matchGroups) (m_allFrom := m_allFrom) (m_allBefore := m_allBefore) (m_founds := m_founds) (m_pieces := m_pieces) (m_writtenMany := m_writtenMany) (m_templateWide := m_templateWide) (m_tooMuch := m_tooMuch) (x := m_at) (y := m_flags) (w := 0) (dn := (-1)) (dh := 0) (re_ := 0) (fr := ((a1_, b1_, c1_, d1_, e1_) :: t1_)) (rp := rp) (ls := ls) (dz := 0) (SV := SV) (FS := ((ao1_, ro1_) :: ts1_)) (ro := ro) (vv := vv) (dv := mnI) (b2_ := m_flags) (nu9 := 0) (fo9 := 0) (RL := RL) (RH := RH) h80 ptrI_0 (by omega) (by omega) (by omega) (Or.inr rfl) (by omega)) (fun oc G2 h => by rcases h with ⟨h, _⟩ <;> exact ⟨_, h⟩) (by omega) m_MO_openGroup ml_MO_392 im_MO_openGroup se_MO_openGroup c_MO h80.2.2 (Nat.le_of_ble_eq_true rfl) d_MO_readGroup_261 rfl ?_
                            intro v G86 hq
                            rcases hq with ⟨hv, hfk, hlk, hsk, pNtrI_0⟩
                            cases hv
                            have h80 := hfk.get h80 (by decide)
                            have h84 := hfk.get h84 (by decide)
                            have h87 := hfk.get h87 (by decide)
                            have h88 := hfk.get h88 (by decide)
                            have h93 := hfk.get h93 (by decide)
                            have h81 := hfk.get h81 (by decide)
                            have h82 := hfk.get h82 (by decide)
                            have h91 := hfk.get h91 (by decide)
                            have h92 := hfk.get h92 (by decide)
                            have h110 := hfk.get h110 (by decide)
                            have h111 := hfk.get h111 (by decide)
                            have ptrI_0 := pNtrI_0
                            have hfr := hfr.tr hfk (by decide)
                            have hlen := hlk.trans hlen
                            have hsl := hsk.trans hsl
                            change ab_W _ _ _ G86 264 [some (vR 80), some (vz m_at), some (vz nw266), some (vz k267), some (vz (tpk A_tape m_taped (m_at + k267)))] [] _
                            refine ab_aload_n d_MO_readGroup_264 rfl ?_
                            refine ab_iload_n d_MO_readGroup_265 rfl ?_
                            refine ab_putf (fs := mof m_thrown m_taped m_length m_out m_wide m_gathered m_sets m_ranges m_nodes (m_at + (k267 + 1)) m_flags m_fault m_place m_numbered (m_depth + 1) m_value m_isNot m_least0 m_most0 m_slot m_work m_got m_rowMany m_charAt m_charWide m_trail m_isMatch m_matchGroups m_allFrom m_allBefore m_founds m_pieces m_writtenMany m_templateWide m_tooMuch) f_MO_276 (Or.inl rfl) d_MO_readGroup_266 h80.2.2 (Nat.le_of_ble_eq_true rfl) (fun _ => ⟨rfl, rfl⟩) (h80.2.1 (by decide)) ?_
                            obtain ⟨G87, eG87⟩ : ∃ z : ab_G, z = List.set G86 80 (ab_ob 12 (mof m_thrown m_taped m_length m_out m_wide m_gathered m_sets m_ranges m_nodes (m_at + (k267 + 1)) nw266 m_fault m_place m_numbered (m_depth + 1) m_value m_isNot m_least0 m_most0 m_slot m_work m_got m_rowMany m_charAt m_charWide m_trail m_isMatch m_matchGroups m_allFrom m_allBefore m_founds m_pieces m_writtenMany m_templateWide m_tooMuch)) := ⟨_, rfl⟩
                            have h84 := h84.keep h80 eG87 (by decide)
                            have h87 := h87.keep h80 eG87 (by decide)
                            have h88 := h88.keep h80 eG87 (by decide)
                            have h93 := h93.keep h80 eG87 (by decide)
                            have h81 := h81.keep h80 eG87 (by decide)
                            have h82 := h82.keep h80 eG87 (by decide)
                            have h91 := h91.keep h80 eG87 (by decide)
                            have h92 := h92.keep h80 eG87 (by decide)
                            have h110 := h110.keep h80 eG87 (by decide)
                            have h111 := h111.keep h80 eG87 (by decide)
                            have hst := (fx.rf (o := o) (S := [280]) (G := G86)).wr h80 eG87 (List.mem_singleton.mpr rfl)
                            have ptrI_0 := trI.fr hst ptrI_0 (by decide) (by decide) (by decide) (by decide) (by decide) (by decide) (by decide) (by decide) (by decide) (by decide) (by decide) (by decide) (by decide) (by decide) (by decide) (by decide) (by decide) (by decide)
                            have hlen := (z_len eG87).trans hlen
                            have hsl := (z_sl h80 eG87 rfl).trans hsl
                            have hfr := hfr.wr h80 eG87 (by decide)
                            have h80 := h80.kept eG87
                            change ab_W _ _ _ (List.set G86 80 (ab_ob 12 (mof m_thrown m_taped m_length m_out m_wide m_gathered m_sets m_ranges m_nodes (m_at + (k267 + 1)) nw266 m_fault m_place m_numbered (m_depth + 1) m_value m_isNot m_least0 m_most0 m_slot m_work m_got m_rowMany m_charAt m_charWide m_trail m_isMatch m_matchGroups m_allFrom m_allBefore m_founds m_pieces m_writtenMany m_templateWide m_tooMuch))) 269 [some (vR 80), some (vz m_at), some (vz nw266), some (vz k267), some (vz (tpk A_tape m_taped (m_at + k267)))] [] _
                            rw [← eG87]
                            refine ab_vret rfl d_MO_readGroup_269 ?_
                            rw [hQ]; exact (Or.inl ⟨_, _, _, _, _, _, _, _, _, _, _, _, _, _, _, _, _, _, _, _, _, _, ((m_at, m_flags, 0, 0, 0) :: ((a1_, b1_, c1_, d1_, e1_) :: t1_)), 0, 0, SV, ((none, mnI) :: ((ao1_, ro1_) :: ts1_)), mnI, mnI, na, nl, rfl, hfr, hlen, hsl, h80, h87, h88, h93, h91, h92, h110, h111, ptrI_0, (by omega), (by first | exact jmk | exact rgs_w jmk (by omega)), (by first | exact jrl | exact rgs_w jrl (by omega)), (by first | exact jrh | exact rgs_w jrh (by omega)), (by first | exact jns | exact rgs_w jns (by omega)), (by first | exact jnm | exact rgs_w jnm (by omega)), (by omega), (by exact jnj), (by rw [show (m_at + (k267 + 1)) = (m_at + k267) + 1 by omega]; exact sb_flgg (by omega) (by omega) (by omega) ⟨_, _, _, flgS_end hq72 hkq7 (by omega), by omega, hq71⟩ (by omega) (by have t_ := hln_; simp only [List.length_cons] at t_ ⊢; omega)), (by exact ss_grp (by omega))⟩)
                          · refine ab_aload_n d_MO_readGroup_192 rfl ?_
                            refine zz_bipush d_MO_readGroup_193 (by decide) ?_
                            refine ab_iload_n d_MO_readGroup_195 rfl ?_
                            refine ab_callV (d' := d - 1) (as := [vz 12, vz m_at]) (st := []) (r := _) (z_MO_wrong (o := o) (m_thrown := m_thrown) (m_taped := m_taped) (m_length := m_length) (m_out := m_out) (m_wide := m_wide) (m_gathered := m_gathered) (m_sets := m_sets) (m_ranges := m_ranges) (m_nodes := m_nodes) (m_at := m_at) (m_flags := m_flags) (m_fault := m_fault) (m_place := m_place) (m_numbered := m_numbered) (m_depth := m_depth) (m_value := m_value) (m_isNot := m_isNot) (m_least0 := m_least0) (m_most0 := m_most0) (m_slot := m_slot) (m_work := m_work) (m_got := m_got) (m_rowMany := m_rowMany) (m_charAt := m_charAt) (m_charWide := m_charWide) (m_trail := m_trail) (m_isMatch := m_isMatch) (m_matchGroups := m_matchGroups) (m_allFrom := m_allFrom) (m_allBefore := m_allBefore) (m_founds := m_founds) (m_pieces := m_pieces) (m_writtenMany := m_writtenMany) (m_templateWide := m_templateWide) (m_tooMuch := m_tooMuch) (x := 12) (y := m_at) h80 (by omega) (by omega)) (fun oc G2 h => by rcases h with ⟨h, _⟩ | ⟨h, _⟩ <;> exact ⟨_, h⟩) (by omega) m_MO_wrong ml_MO_304 im_MO_wrong se_MO_wrong c_MO h80.2.2 (Nat.le_of_ble_eq_true rfl) d_MO_readGroup_196 rfl ?_
                            intro v G88 hq
                            rcases hq with ⟨hv, hfk, hlk, hsk, hN80, hq89⟩ | ⟨hv, hGe, hq90⟩
                            · cases hv
                              have h84 := hfk.get h84 (by decide)
                              have h87 := hfk.get h87 (by decide)
                              have h88 := hfk.get h88 (by decide)
                              have h93 := hfk.get h93 (by decide)
                              have h81 := hfk.get h81 (by decide)
                              have h82 := hfk.get h82 (by decide)
                              have h91 := hfk.get h91 (by decide)
                              have h92 := hfk.get h92 (by decide)
                              have h110 := hfk.get h110 (by decide)
                              have h111 := hfk.get h111 (by decide)
                              have ptrI_0 := trI.fr hfk ptrI_0 (by decide) (by decide) (by decide) (by decide) (by decide) (by decide) (by decide) (by decide) (by decide) (by decide) (by decide) (by decide) (by decide) (by decide) (by decide) (by decide) (by decide) (by decide)
                              have hfr := hfr.tr hfk (by decide)
                              have hlen := hlk.trans hlen
                              have hsl := hsk.trans hsl
                              have h80 := hN80
                              change ab_W _ _ _ G88 199 [some (vR 80), some (vz m_at), some (vz nw266), some (vz k267), some (vz (tpk A_tape m_taped (m_at + k267)))] [] _
                              refine ab_aload_n d_MO_readGroup_199 rfl ?_
                              refine ab_getf (fs := mof m_thrown m_taped m_length m_out m_wide m_gathered m_sets m_ranges m_nodes m_at m_flags 12 m_at m_numbered m_depth m_value m_isNot m_least0 m_most0 m_slot m_work m_got m_rowMany m_charAt m_charWide m_trail m_isMatch m_matchGroups m_allFrom m_allBefore m_founds m_pieces m_writtenMany m_templateWide m_tooMuch) f_MO_273 d_MO_readGroup_200 h80.2.2 rfl ?_
                              refine zz_if_le (tgt := 207) d_MO_readGroup_203 (by decide) (by decide) (fun c91 => absurd c91 (by decide)) (fun c91 => ?_)
                              refine ab_vret rfl d_MO_readGroup_206 ?_
                              rw [hQ]; exact (Or.inr ⟨_, _, _, _, _, _, _, _, _, _, _, _, _, _, _, _, _, _, _, _, _, _, ((a1_, b1_, c1_, d1_, e1_) :: t1_), rp, ls, SV, ((ao1_, ro1_) :: ts1_), ro, vv, rfl, hfr, hlen, hsl, h80, h87, h88, h93, h91, h92, h110, h111, ptrI_0, (by omega), (by first | exact jmk | exact rgs_w jmk (by omega)), (by first | exact jrl | exact rgs_w jrl (by omega)), (by first | exact jrh | exact rgs_w jrh (by omega)), (by first | exact jns | exact rgs_w jns (by omega)), (by first | exact jnm | exact rgs_w jnm (by omega)), (by exact sf_o (by omega) (of_g (by omega) (by omega) ⟨_, _, _, flgS_end hq72 hkq7 (by omega), by omega, hq71⟩ (by omega) (by have t_ := hln_; simp only [List.length_cons] at t_ ⊢; omega)))⟩)
                            · cases hv
                              rw [hGe]
                              change ab_W _ _ _ G65 199 [some (vR 80), some (vz m_at), some (vz nw266), some (vz k267), some (vz (tpk A_tape m_taped (m_at + k267)))] [] _
                              exfalso; omega
                        · refine ab_iload d_MO_readGroup_159 rfl ?_
                          refine zz_bipush d_MO_readGroup_161 (by decide) ?_
                          refine zz_icmp_eq (tgt := 176) d_MO_readGroup_163 (by decide) (by omega) (by decide) (fun c92 => ?_) (fun c92 => ?_)
                          · refine ab_iload d_MO_readGroup_176 rfl ?_
                            refine zz_bipush d_MO_readGroup_178 (by decide) ?_
                            refine zz_icmp_ne (tgt := 199) d_MO_readGroup_180 (by decide) (by omega) (by decide) (fun c93 => ?_) (fun c93 => absurd c93 (by omega))
                            refine ab_aload_n d_MO_readGroup_199 rfl ?_
                            refine ab_getf (fs := mof m_thrown m_taped m_length m_out m_wide m_gathered m_sets m_ranges m_nodes m_at m_flags m_fault m_place m_numbered m_depth m_value m_isNot m_least0 m_most0 m_slot m_work m_got m_rowMany m_charAt m_charWide m_trail m_isMatch m_matchGroups m_allFrom m_allBefore m_founds m_pieces m_writtenMany m_templateWide m_tooMuch) f_MO_273 d_MO_readGroup_200 h80.2.2 rfl ?_
                            refine zz_if_le (tgt := 207) d_MO_readGroup_203 (by decide) (by omega) (fun c94 => ?_) (fun c94 => absurd c94 (by omega))
                            refine ab_aload_n d_MO_readGroup_207 rfl ?_
                            refine ab_dup d_MO_readGroup_208 rfl ?_
                            refine ab_getf (fs := mof m_thrown m_taped m_length m_out m_wide m_gathered m_sets m_ranges m_nodes m_at m_flags m_fault m_place m_numbered m_depth m_value m_isNot m_least0 m_most0 m_slot m_work m_got m_rowMany m_charAt m_charWide m_trail m_isMatch m_matchGroups m_allFrom m_allBefore m_founds m_pieces m_writtenMany m_templateWide m_tooMuch) f_MO_279 d_MO_readGroup_209 h80.2.2 rfl ?_
                            refine ab_iload_n d_MO_readGroup_212 rfl ?_
                            refine zz_iconst d_MO_readGroup_213 ?_
                            refine zz_iadd d_MO_readGroup_214 ?_
                            refine zz_iadd d_MO_readGroup_215 ?_
                            refine ab_putf (fs := mof m_thrown m_taped m_length m_out m_wide m_gathered m_sets m_ranges m_nodes m_at m_flags m_fault m_place m_numbered m_depth m_value m_isNot m_least0 m_most0 m_slot m_work m_got m_rowMany m_charAt m_charWide m_trail m_isMatch m_matchGroups m_allFrom m_allBefore m_founds m_pieces m_writtenMany m_templateWide m_tooMuch) f_MO_279 (Or.inl rfl) d_MO_readGroup_216 h80.2.2 (Nat.le_of_ble_eq_true rfl) (fun _ => ⟨rfl, rfl⟩) (h80.2.1 (by decide)) ?_
                            obtain ⟨G95, eG95⟩ : ∃ z : ab_G, z = List.set G65 80 (ab_ob 12 (mof m_thrown m_taped m_length m_out m_wide m_gathered m_sets m_ranges m_nodes (m_at + (k267 + 1)) m_flags m_fault m_place m_numbered m_depth m_value m_isNot m_least0 m_most0 m_slot m_work m_got m_rowMany m_charAt m_charWide m_trail m_isMatch m_matchGroups m_allFrom m_allBefore m_founds m_pieces m_writtenMany m_templateWide m_tooMuch)) := ⟨_, rfl⟩
                            have h84 := h84.keep h80 eG95 (by decide)
                            have h87 := h87.keep h80 eG95 (by decide)
                            have h88 := h88.keep h80 eG95 (by decide)
                            have h93 := h93.keep h80 eG95 (by decide)
                            have h81 := h81.keep h80 eG95 (by decide)
                            have h82 := h82.keep h80 eG95 (by decide)
                            have h91 := h91.keep h80 eG95 (by decide)
                            have h92 := h92.keep h80 eG95 (by decide)
                            have h110 := h110.keep h80 eG95 (by decide)
                            have h111 := h111.keep h80 eG95 (by decide)
                            have hst := (fx.rf (o := o) (S := [280]) (G := G65)).wr h80 eG95 (List.mem_singleton.mpr rfl)
                            have ptrI_0 := trI.fr hst ptrI_0 (by decide) (by decide) (by decide) (by decide) (by decide) (by decide) (by decide) (by decide) (by decide) (by decide) (by decide) (by decide) (by decide) (by decide) (by decide) (by decide) (by decide) (by decide)
                            have hlen := (z_len eG95).trans hlen
                            have hsl := (z_sl h80 eG95 rfl).trans hsl
                            have hfr := hfr.wr h80 eG95 (by decide)
                            have h80 := h80.kept eG95
                            change ab_W _ _ _ (List.set G65 80 (ab_ob 12 (mof m_thrown m_taped m_length m_out m_wide m_gathered m_sets m_ranges m_nodes (m_at + (k267 + 1)) m_flags m_fault m_place m_numbered m_depth m_value m_isNot m_least0 m_most0 m_slot m_work m_got m_rowMany m_charAt m_charWide m_trail m_isMatch m_matchGroups m_allFrom m_allBefore m_founds m_pieces m_writtenMany m_templateWide m_tooMuch))) 219 [some (vR 80), some (vz m_at), some (vz nw266), some (vz k267), some (vz (tpk A_tape m_taped (m_at + k267)))] [] _
                            rw [← eG95]
                            refine ab_iload d_MO_readGroup_219 rfl ?_
                            refine zz_bipush d_MO_readGroup_221 (by decide) ?_
                            refine zz_icmp_ne (tgt := 244) d_MO_readGroup_223 (by decide) (by omega) (by decide) (fun c96 => absurd c96 (by omega)) (fun c96 => ?_)
                            refine ab_aload_n d_MO_readGroup_226 rfl ?_
                            refine ab_iload_n d_MO_readGroup_227 rfl ?_
                            refine ab_putf (fs := mof m_thrown m_taped m_length m_out m_wide m_gathered m_sets m_ranges m_nodes (m_at + (k267 + 1)) m_flags m_fault m_place m_numbered m_depth m_value m_isNot m_least0 m_most0 m_slot m_work m_got m_rowMany m_charAt m_charWide m_trail m_isMatch m_matchGroups m_allFrom m_allBefore m_founds m_pieces m_writtenMany m_templateWide m_tooMuch) f_MO_276 (Or.inl rfl) d_MO_readGroup_228 h80.2.2 (Nat.le_of_ble_eq_true rfl) (fun _ => ⟨rfl, rfl⟩) (h80.2.1 (by decide)) ?_
                            obtain ⟨G97, eG97⟩ : ∃ z : ab_G, z = List.set G95 80 (ab_ob 12 (mof m_thrown m_taped m_length m_out m_wide m_gathered m_sets m_ranges m_nodes (m_at + (k267 + 1)) nw266 m_fault m_place m_numbered m_depth m_value m_isNot m_least0 m_most0 m_slot m_work m_got m_rowMany m_charAt m_charWide m_trail m_isMatch m_matchGroups m_allFrom m_allBefore m_founds m_pieces m_writtenMany m_templateWide m_tooMuch)) := ⟨_, rfl⟩
                            have h84 := h84.keep h80 eG97 (by decide)
                            have h87 := h87.keep h80 eG97 (by decide)
                            have h88 := h88.keep h80 eG97 (by decide)
                            have h93 := h93.keep h80 eG97 (by decide)
                            have h81 := h81.keep h80 eG97 (by decide)
                            have h82 := h82.keep h80 eG97 (by decide)
                            have h91 := h91.keep h80 eG97 (by decide)
                            have h92 := h92.keep h80 eG97 (by decide)
                            have h110 := h110.keep h80 eG97 (by decide)
                            have h111 := h111.keep h80 eG97 (by decide)
                            have hst := (fx.rf (o := o) (S := [280]) (G := G95)).wr h80 eG97 (List.mem_singleton.mpr rfl)
                            have ptrI_0 := trI.fr hst ptrI_0 (by decide) (by decide) (by decide) (by decide) (by decide) (by decide) (by decide) (by decide) (by decide) (by decide) (by decide) (by decide) (by decide) (by decide) (by decide) (by decide) (by decide) (by decide)
                            have hlen := (z_len eG97).trans hlen
                            have hsl := (z_sl h80 eG97 rfl).trans hsl
                            have hfr := hfr.wr h80 eG97 (by decide)
                            have h80 := h80.kept eG97
                            change ab_W _ _ _ (List.set G95 80 (ab_ob 12 (mof m_thrown m_taped m_length m_out m_wide m_gathered m_sets m_ranges m_nodes (m_at + (k267 + 1)) nw266 m_fault m_place m_numbered m_depth m_value m_isNot m_least0 m_most0 m_slot m_work m_got m_rowMany m_charAt m_charWide m_trail m_isMatch m_matchGroups m_allFrom m_allBefore m_founds m_pieces m_writtenMany m_templateWide m_tooMuch))) 231 [some (vR 80), some (vz m_at), some (vz nw266), some (vz k267), some (vz (tpk A_tape m_taped (m_at + k267)))] [] _
                            rw [← eG97]
                            obtain ⟨K, O, Fi, Be, Le, Mo, Z, LZ, SM, SA, QF, QL, AF, AL, SD, OA, OF, ON, h94, h95, h96, h97, h98, h99, h100, h101, h90, h89, h105, h106, h107, h108, h109, h102, h103, h104, jk, jo, jfi, jbe, jle, jmo, jz, jlz, jsm, jsa, jqf, jql, jaf, jal, jsd, joa, jof, jon, jt, cnd, cre, crs, crz, ck5, ck6, ck7, jss, jsv⟩ := ptrI_0
                            refine ab_aload_n d_MO_readGroup_231 rfl ?_
                            refine ab_aload_n d_MO_readGroup_232 rfl ?_
                            refine zz_iconst d_MO_readGroup_233 ?_
                            refine zz_iconst d_MO_readGroup_234 ?_
                            refine zz_lconst d_MO_readGroup_235 ?_
                            change ab_W _ _ _ G97 236 [some (vR 80), some (vz m_at), some (vz nw266), some (vz k267), some (vz (tpk A_tape m_taped (m_at + k267)))] [vj 0, vz 0, vz 0, vR 80, vR 80] _
                            refine ab_callV (d' := d - 1) (as := [vz 0, vz 0, vj 0]) (st := [vR 80]) (r := _) (z_MO_node (o := o) (m_thrown := m_thrown) (m_taped := m_taped) (m_length := m_length) (m_out := m_out) (m_wide := m_wide) (m_gathered := m_gathered) (m_sets := m_sets) (m_ranges := m_ranges) (m_nodes := m_nodes) (m_at := (m_at + (k267 + 1))) (m_flags := nw266) (m_fault := m_fault) (m_place := m_place) (m_numbered := m_numbered) (m_depth := m_depth) (m_value := m_value) (m_isNot := m_isNot) (m_least0 := m_least0) (m_most0 := m_most0) (m_slot := m_slot) (m_work := m_work) (m_got := m_got) (m_rowMany := m_rowMany) (m_charAt := m_charAt) (m_charWide := m_charWide) (m_trail := m_trail) (m_isMatch := m_isMatch) (m_matchGroups := m_matchGroups) (m_allFrom := m_allFrom) (m_allBefore := m_allBefore) (m_founds := m_founds) (m_pieces := m_pieces) (m_writtenMany := m_writtenMany) (m_templateWide := m_templateWide) (m_tooMuch := m_tooMuch) (K := K) (O := O) (Fi := Fi) (Be := Be) (Z := Z) (k := 0) (w := 0) (zs := 0) h80 h94 h95 h96 h97 h100 (by omega) (by omega)) (fun oc G2 h => by rcases h with ⟨h, _⟩ <;> exact ⟨_, h⟩) (by omega) m_MO_node ml_MO_269 im_MO_node se_MO_node c_MO h80.2.2 (Nat.le_of_ble_eq_true rfl) d_MO_readGroup_236 rfl ?_
                            intro v G98 hq
                            rcases hq with ⟨hv, hfk, hlk, hsk, hN80, hN94, hN95, hN96, hN97, hN100⟩
                            cases hv
                            have h84 := hfk.get h84 (by decide)
                            have h87 := hfk.get h87 (by decide)
                            have h88 := hfk.get h88 (by decide)
                            have h93 := hfk.get h93 (by decide)
                            have h81 := hfk.get h81 (by decide)
                            have h82 := hfk.get h82 (by decide)
                            have h91 := hfk.get h91 (by decide)
                            have h92 := hfk.get h92 (by decide)
                            have h110 := hfk.get h110 (by decide)
                            have h111 := hfk.get h111 (by decide)
                            have h98 := hfk.get h98 (by decide)
                            have h99 := hfk.get h99 (by decide)
                            have h101 := hfk.get h101 (by decide)
                            have h90 := hfk.get h90 (by decide)
                            have h89 := hfk.get h89 (by decide)
                            have h105 := hfk.get h105 (by decide)
                            have h106 := hfk.get h106 (by decide)
                            have h107 := hfk.get h107 (by decide)
                            have h108 := hfk.get h108 (by decide)
                            have h109 := hfk.get h109 (by decide)
                            have h102 := hfk.get h102 (by decide)
                            have h103 := hfk.get h103 (by decide)
                            have h104 := hfk.get h104 (by decide)
                            have hfr := hfr.tr hfk (by decide)
                            have hlen := hlk.trans hlen
                            have hsl := hsk.trans hsl
                            have h80 := hN80
                            have h94 := hN94
                            have h95 := hN95
                            have h96 := hN96
                            have h97 := hN97
                            have h100 := hN100
                            change ab_W _ _ _ G98 239 [some (vR 80), some (vz m_at), some (vz nw266), some (vz k267), some (vz (tpk A_tape m_taped (m_at + k267)))] [vz m_nodes, vR 80] _
                            have ptrI_0 : trI o G98 0 (m_nodes + 1) m_sets (m_depth + 1) m_nodes 0 6 ((a1_, b1_, c1_, d1_, e1_) :: t1_) rp ls 0 SV ((ao1_, ro1_) :: ts1_) ro vv mnI RL RH m_ranges 0 0 := ⟨(zu K m_nodes 0), (zu O m_nodes 0), (zu Fi m_nodes (-1)), (zu Be m_nodes (-1)), Le, Mo, (zu Z m_nodes 0), LZ, SM, SA, QF, QL, AF, AL, SD, OA, OF, ON, h94, h95, h96, h97, h98, h99, h100, h101, h90, h89, h105, h106, h107, h108, h109, h102, h103, h104, (rgs_zu jk (by omega)), (rgs_zu jo (by omega)), (rgs_zu jfi (by omega)), (rgs_zu jbe (by omega)), jle, jmo, (rgs_zu jz (by omega)), jlz, jsm, jsa, jqf, jql, jaf, jal, jsd, joa, jof, jon, (rtk_leaf jt (by omega) (Or.inl ⟨rfl, rfl⟩) (Or.inl ⟨rfl, rfl⟩)), (by omega), (fun h => absurd h (by decide)), (fun h => absurd h (by decide)), (fun h => absurd h (by decide)), (fun h => absurd h (by decide)), (fun _ => by rw [zu_self]; decide), (fun h => absurd h (by decide)), jss, jsv⟩
                            refine zz_iconst d_MO_readGroup_239 ?_
                            refine ab_callV (d' := d - 1) (as := [vz m_nodes, vz 2]) (st := []) (r := _) (z2_MO_part (o := o) (m_thrown := m_thrown) (m_taped := m_taped) (m_length := m_length) (m_out := m_out) (m_wide := m_wide) (m_gathered := m_gathered) (m_sets := m_sets) (m_ranges := m_ranges) (m_nodes := (m_nodes + 1)) (m_at := (m_at + (k267 + 1))) (m_flags := nw266) (m_fault := m_fault) (m_place := m_place) (m_numbered := m_numbered) (m_depth := m_depth) (m_value := m_value) (m_isNot := m_isNot) (m_least0 := m_least0) (m_most0 := m_most0) (m_slot := m_slot) (m_work := m_work) (m_got := m_got) (m_rowMany := m_rowMany) (m_charAt := m_charAt) (m_charWide := m_charWide) (m_trail := m_trail) (m_isMatch := m_isMatch) (m_matchGroups := m_matchGroups) (m_allFrom := m_allFrom) (m_allBefore := m_allBefore) (m_founds := m_founds) (m_pieces := m_pieces) (m_writtenMany := m_writtenMany) (m_templateWide := m_templateWide) (m_tooMuch := m_tooMuch) (x := m_nodes) (dh := 0) (rp := rp) (ls := ls) (dz := 0) (SV := SV) (ro := ro) (vv := vv) (dv := mnI) (a1_ := a1_) (b1_ := b1_) (c1_ := c1_) (d1_ := d1_) (e1_ := e1_) (nu9 := 0) (fo9 := 0) (t1_ := t1_) (ao1_ := ao1_) (ro1_ := ro1_) (ts1_ := ts1_) (RL := RL) (RH := RH) h80 ptrI_0 (by omega) (by omega) (by omega) (by omega)) (fun oc G2 h => by rcases h with ⟨h, _⟩ <;> exact ⟨_, h⟩) (by omega) m_MO_part ml_MO_375 im_MO_part se_MO_part c_MO h80.2.2 (Nat.le_of_ble_eq_true rfl) d_MO_readGroup_240 rfl ?_
                            intro v G99 hq
                            rcases hq with ⟨hv, hfk, hlk, hsk, pNtrI_0⟩
                            cases hv
                            have h80 := hfk.get h80 (by decide)
                            have h84 := hfk.get h84 (by decide)
                            have h87 := hfk.get h87 (by decide)
                            have h88 := hfk.get h88 (by decide)
                            have h93 := hfk.get h93 (by decide)
                            have h81 := hfk.get h81 (by decide)
                            have h82 := hfk.get h82 (by decide)
                            have h91 := hfk.get h91 (by decide)
                            have h92 := hfk.get h92 (by decide)
                            have h110 := hfk.get h110 (by decide)
                            have h111 := hfk.get h111 (by decide)
                            have ptrI_0 := pNtrI_0
                            have hfr := hfr.tr hfk (by decide)
                            have hlen := hlk.trans hlen
                            have hsl := hsk.trans hsl
                            change ab_W _ _ _ G99 243 [some (vR 80), some (vz m_at), some (vz nw266), some (vz k267), some (vz (tpk A_tape m_taped (m_at + k267)))] [] _
                            refine ab_vret rfl d_MO_readGroup_243 ?_
                            rw [hQ]; exact (Or.inl ⟨_, _, _, _, _, _, _, _, _, _, _, _, _, _, _, _, _, _, _, _, _, _, ((a1_, b1_, c1_, d1_, (e1_ + 0)) :: t1_), 0, 0, SV, ((ao1_, (mnC ro1_ mnI)) :: ts1_), mnI, mnI, na, nl, rfl, hfr, hlen, hsl, h80, h87, h88, h93, h91, h92, h110, h111, ptrI_0, (by omega), (by first | exact jmk | exact rgs_w jmk (by omega)), (by first | exact jrl | exact rgs_w jrl (by omega)), (by first | exact jrh | exact rgs_w jrh (by omega)), (by first | exact jns | exact rgs_w jns (by omega)), (by first | exact jnm | exact rgs_w jnm (by omega)), (by omega), (by exact jnj), (by rw [show (m_at + (k267 + 1)) = (m_at + k267) + 1 by omega]; rw [Int.add_zero]; exact sb_flag (by omega) (by omega) (by omega) ⟨_, _, _, flgS_end hq72 hkq7 (by omega), by omega, hq71⟩ (by omega)), (by exact ss_flag (by omega) rfl)⟩)
                          · refine ab_aload_n d_MO_readGroup_166 rfl ?_
                            refine zz_bipush d_MO_readGroup_167 (by decide) ?_
                            refine ab_iload_n d_MO_readGroup_169 rfl ?_
                            refine ab_callV (d' := d - 1) (as := [vz 10, vz m_at]) (st := []) (r := _) (z_MO_wrong (o := o) (m_thrown := m_thrown) (m_taped := m_taped) (m_length := m_length) (m_out := m_out) (m_wide := m_wide) (m_gathered := m_gathered) (m_sets := m_sets) (m_ranges := m_ranges) (m_nodes := m_nodes) (m_at := m_at) (m_flags := m_flags) (m_fault := m_fault) (m_place := m_place) (m_numbered := m_numbered) (m_depth := m_depth) (m_value := m_value) (m_isNot := m_isNot) (m_least0 := m_least0) (m_most0 := m_most0) (m_slot := m_slot) (m_work := m_work) (m_got := m_got) (m_rowMany := m_rowMany) (m_charAt := m_charAt) (m_charWide := m_charWide) (m_trail := m_trail) (m_isMatch := m_isMatch) (m_matchGroups := m_matchGroups) (m_allFrom := m_allFrom) (m_allBefore := m_allBefore) (m_founds := m_founds) (m_pieces := m_pieces) (m_writtenMany := m_writtenMany) (m_templateWide := m_templateWide) (m_tooMuch := m_tooMuch) (x := 10) (y := m_at) h80 (by omega) (by omega)) (fun oc G2 h => by rcases h with ⟨h, _⟩ | ⟨h, _⟩ <;> exact ⟨_, h⟩) (by omega) m_MO_wrong ml_MO_304 im_MO_wrong se_MO_wrong c_MO h80.2.2 (Nat.le_of_ble_eq_true rfl) d_MO_readGroup_170 rfl ?_
                            intro v G100 hq
                            rcases hq with ⟨hv, hfk, hlk, hsk, hN80, hq101⟩ | ⟨hv, hGe, hq102⟩
                            · cases hv
                              have h84 := hfk.get h84 (by decide)
                              have h87 := hfk.get h87 (by decide)
                              have h88 := hfk.get h88 (by decide)
                              have h93 := hfk.get h93 (by decide)
                              have h81 := hfk.get h81 (by decide)
                              have h82 := hfk.get h82 (by decide)
                              have h91 := hfk.get h91 (by decide)
                              have h92 := hfk.get h92 (by decide)
                              have h110 := hfk.get h110 (by decide)
                              have h111 := hfk.get h111 (by decide)
                              have ptrI_0 := trI.fr hfk ptrI_0 (by decide) (by decide) (by decide) (by decide) (by decide) (by decide) (by decide) (by decide) (by decide) (by decide) (by decide) (by decide) (by decide) (by decide) (by decide) (by decide) (by decide) (by decide)
                              have hfr := hfr.tr hfk (by decide)
                              have hlen := hlk.trans hlen
                              have hsl := hsk.trans hsl
                              have h80 := hN80
                              change ab_W _ _ _ G100 173 [some (vR 80), some (vz m_at), some (vz nw266), some (vz k267), some (vz (tpk A_tape m_taped (m_at + k267)))] [] _
                              refine ab_goto (tgt := 199) d_MO_readGroup_173 (by decide) ?_
                              refine ab_aload_n d_MO_readGroup_199 rfl ?_
                              refine ab_getf (fs := mof m_thrown m_taped m_length m_out m_wide m_gathered m_sets m_ranges m_nodes m_at m_flags 10 m_at m_numbered m_depth m_value m_isNot m_least0 m_most0 m_slot m_work m_got m_rowMany m_charAt m_charWide m_trail m_isMatch m_matchGroups m_allFrom m_allBefore m_founds m_pieces m_writtenMany m_templateWide m_tooMuch) f_MO_273 d_MO_readGroup_200 h80.2.2 rfl ?_
                              refine zz_if_le (tgt := 207) d_MO_readGroup_203 (by decide) (by decide) (fun c103 => absurd c103 (by decide)) (fun c103 => ?_)
                              refine ab_vret rfl d_MO_readGroup_206 ?_
                              rw [hQ]; exact (Or.inr ⟨_, _, _, _, _, _, _, _, _, _, _, _, _, _, _, _, _, _, _, _, _, _, ((a1_, b1_, c1_, d1_, e1_) :: t1_), rp, ls, SV, ((ao1_, ro1_) :: ts1_), ro, vv, rfl, hfr, hlen, hsl, h80, h87, h88, h93, h91, h92, h110, h111, ptrI_0, (by omega), (by first | exact jmk | exact rgs_w jmk (by omega)), (by first | exact jrl | exact rgs_w jrl (by omega)), (by first | exact jrh | exact rgs_w jrh (by omega)), (by first | exact jns | exact rgs_w jns (by omega)), (by first | exact jnm | exact rgs_w jnm (by omega)), (by exact sf_o (by omega) (of_f (by omega) (by omega) (Or.inl (flgS_bad hq72 hkq7 (by omega) hq73 (by omega)))))⟩)
                            · cases hv
                              rw [hGe]
                              change ab_W _ _ _ G65 173 [some (vR 80), some (vz m_at), some (vz nw266), some (vz k267), some (vz (tpk A_tape m_taped (m_at + k267)))] [] _
                              exfalso; omega
                      · cases hv
                        rw [hGe]
                        change ab_W _ _ _ G65 150 [some (vR 80), some (vz m_at), some (vz nw266), some (vz k267), none] [vz (-1)] _
                        refine ab_istore d_MO_readGroup_150 (Nat.le_of_ble_eq_true rfl) (Nat.le_of_ble_eq_true rfl) rfl ?_
                        change ab_W _ _ _ G65 152 [some (vR 80), some (vz m_at), some (vz nw266), some (vz k267), some (vz (-1))] [] _
                        refine ab_iload d_MO_readGroup_152 rfl ?_
                        refine zz_bipush d_MO_readGroup_154 (by decide) ?_
                        refine zz_icmp_eq (tgt := 176) d_MO_readGroup_156 (by decide) (by decide) (by decide) (fun c104 => absurd c104 (by decide)) (fun c104 => ?_)
                        refine ab_iload d_MO_readGroup_159 rfl ?_
                        refine zz_bipush d_MO_readGroup_161 (by decide) ?_
                        refine zz_icmp_eq (tgt := 176) d_MO_readGroup_163 (by decide) (by decide) (by decide) (fun c105 => absurd c105 (by decide)) (fun c105 => ?_)
                        refine ab_aload_n d_MO_readGroup_166 rfl ?_
                        refine zz_bipush d_MO_readGroup_167 (by decide) ?_
                        refine ab_iload_n d_MO_readGroup_169 rfl ?_
                        refine ab_callV (d' := d - 1) (as := [vz 10, vz m_at]) (st := []) (r := _) (z_MO_wrong (o := o) (m_thrown := m_thrown) (m_taped := m_taped) (m_length := m_length) (m_out := m_out) (m_wide := m_wide) (m_gathered := m_gathered) (m_sets := m_sets) (m_ranges := m_ranges) (m_nodes := m_nodes) (m_at := m_at) (m_flags := m_flags) (m_fault := m_fault) (m_place := m_place) (m_numbered := m_numbered) (m_depth := m_depth) (m_value := m_value) (m_isNot := m_isNot) (m_least0 := m_least0) (m_most0 := m_most0) (m_slot := m_slot) (m_work := m_work) (m_got := m_got) (m_rowMany := m_rowMany) (m_charAt := m_charAt) (m_charWide := m_charWide) (m_trail := m_trail) (m_isMatch := m_isMatch) (m_matchGroups := m_matchGroups) (m_allFrom := m_allFrom) (m_allBefore := m_allBefore) (m_founds := m_founds) (m_pieces := m_pieces) (m_writtenMany := m_writtenMany) (m_templateWide := m_templateWide) (m_tooMuch := m_tooMuch) (x := 10) (y := m_at) h80 (by omega) (by omega)) (fun oc G2 h => by rcases h with ⟨h, _⟩ | ⟨h, _⟩ <;> exact ⟨_, h⟩) (by omega) m_MO_wrong ml_MO_304 im_MO_wrong se_MO_wrong c_MO h80.2.2 (Nat.le_of_ble_eq_true rfl) d_MO_readGroup_170 rfl ?_
                        intro v G106 hq
                        rcases hq with ⟨hv, hfk, hlk, hsk, hN80, hq107⟩ | ⟨hv, hGe, hq108⟩
                        · cases hv
                          have h84 := hfk.get h84 (by decide)
                          have h87 := hfk.get h87 (by decide)
                          have h88 := hfk.get h88 (by decide)
                          have h93 := hfk.get h93 (by decide)
                          have h81 := hfk.get h81 (by decide)
                          have h82 := hfk.get h82 (by decide)
                          have h91 := hfk.get h91 (by decide)
                          have h92 := hfk.get h92 (by decide)
                          have h110 := hfk.get h110 (by decide)
                          have h111 := hfk.get h111 (by decide)
                          have ptrI_0 := trI.fr hfk ptrI_0 (by decide) (by decide) (by decide) (by decide) (by decide) (by decide) (by decide) (by decide) (by decide) (by decide) (by decide) (by decide) (by decide) (by decide) (by decide) (by decide) (by decide) (by decide)
                          have hfr := hfr.tr hfk (by decide)
                          have hlen := hlk.trans hlen
                          have hsl := hsk.trans hsl
                          have h80 := hN80
                          change ab_W _ _ _ G106 173 [some (vR 80), some (vz m_at), some (vz nw266), some (vz k267), some (vz (-1))] [] _
                          refine ab_goto (tgt := 199) d_MO_readGroup_173 (by decide) ?_
                          refine ab_aload_n d_MO_readGroup_199 rfl ?_
                          refine ab_getf (fs := mof m_thrown m_taped m_length m_out m_wide m_gathered m_sets m_ranges m_nodes m_at m_flags 10 m_at m_numbered m_depth m_value m_isNot m_least0 m_most0 m_slot m_work m_got m_rowMany m_charAt m_charWide m_trail m_isMatch m_matchGroups m_allFrom m_allBefore m_founds m_pieces m_writtenMany m_templateWide m_tooMuch) f_MO_273 d_MO_readGroup_200 h80.2.2 rfl ?_
                          refine zz_if_le (tgt := 207) d_MO_readGroup_203 (by decide) (by decide) (fun c109 => absurd c109 (by decide)) (fun c109 => ?_)
                          refine ab_vret rfl d_MO_readGroup_206 ?_
                          rw [hQ]; exact (Or.inr ⟨_, _, _, _, _, _, _, _, _, _, _, _, _, _, _, _, _, _, _, _, _, _, ((a1_, b1_, c1_, d1_, e1_) :: t1_), rp, ls, SV, ((ao1_, ro1_) :: ts1_), ro, vv, rfl, hfr, hlen, hsl, h80, h87, h88, h93, h91, h92, h110, h111, ptrI_0, (by omega), (by first | exact jmk | exact rgs_w jmk (by omega)), (by first | exact jrl | exact rgs_w jrl (by omega)), (by first | exact jrh | exact rgs_w jrh (by omega)), (by first | exact jns | exact rgs_w jns (by omega)), (by first | exact jnm | exact rgs_w jnm (by omega)), (by exact sf_o (by omega) (of_f (by omega) (by omega) (Or.inl (flgS_bad hq72 hkq7 (by omega) hq73 (by omega)))))⟩)
                        · cases hv
                          rw [hGe]
                          change ab_W _ _ _ G65 173 [some (vR 80), some (vz m_at), some (vz nw266), some (vz k267), some (vz (-1))] [] _
                          exfalso; omega
                  · refine ab_aload_n d_MO_readGroup_108 rfl ?_
                    refine zz_bipush d_MO_readGroup_109 (by decide) ?_
                    refine ab_iload_n d_MO_readGroup_111 rfl ?_
                    refine ab_callV (d' := d - 1) (as := [vz 10, vz m_at]) (st := []) (r := _) (z_MO_wrong (o := o) (m_thrown := m_thrown) (m_taped := m_taped) (m_length := m_length) (m_out := m_out) (m_wide := m_wide) (m_gathered := m_gathered) (m_sets := m_sets) (m_ranges := m_ranges) (m_nodes := m_nodes) (m_at := m_at) (m_flags := m_flags) (m_fault := m_fault) (m_place := m_place) (m_numbered := m_numbered) (m_depth := m_depth) (m_value := m_value) (m_isNot := m_isNot) (m_least0 := m_least0) (m_most0 := m_most0) (m_slot := m_slot) (m_work := m_work) (m_got := m_got) (m_rowMany := m_rowMany) (m_charAt := m_charAt) (m_charWide := m_charWide) (m_trail := m_trail) (m_isMatch := m_isMatch) (m_matchGroups := m_matchGroups) (m_allFrom := m_allFrom) (m_allBefore := m_allBefore) (m_founds := m_founds) (m_pieces := m_pieces) (m_writtenMany := m_writtenMany) (m_templateWide := m_templateWide) (m_tooMuch := m_tooMuch) (x := 10) (y := m_at) h80 (by omega) (by omega)) (fun oc G2 h => by rcases h with ⟨h, _⟩ | ⟨h, _⟩ <;> exact ⟨_, h⟩) (by omega) m_MO_wrong ml_MO_304 im_MO_wrong se_MO_wrong c_MO h80.2.2 (Nat.le_of_ble_eq_true rfl) d_MO_readGroup_112 rfl ?_
                    intro v G110 hq
                    rcases hq with ⟨hv, hfk, hlk, hsk, hN80, hq111⟩ | ⟨hv, hGe, hq112⟩
                    · cases hv
                      have h84 := hfk.get h84 (by decide)
                      have h87 := hfk.get h87 (by decide)
                      have h88 := hfk.get h88 (by decide)
                      have h93 := hfk.get h93 (by decide)
                      have h81 := hfk.get h81 (by decide)
                      have h82 := hfk.get h82 (by decide)
                      have h91 := hfk.get h91 (by decide)
                      have h92 := hfk.get h92 (by decide)
                      have h110 := hfk.get h110 (by decide)
                      have h111 := hfk.get h111 (by decide)
                      have ptrI_0 := trI.fr hfk ptrI_0 (by decide) (by decide) (by decide) (by decide) (by decide) (by decide) (by decide) (by decide) (by decide) (by decide) (by decide) (by decide) (by decide) (by decide) (by decide) (by decide) (by decide) (by decide)
                      have hfr := hfr.tr hfk (by decide)
                      have hlen := hlk.trans hlen
                      have hsl := hsk.trans hsl
                      have h80 := hN80
                      change ab_W _ _ _ G110 115 [some (vR 80), some (vz m_at), some (vz nw212), some (vz (k213 + 1)), none] [] _
                      refine y_MO_readGroup_115 (m_thrown := m_thrown) (m_taped := m_taped) (m_length := m_length) (m_out := m_out) (m_wide := m_wide) (m_gathered := m_gathered) (m_sets := m_sets) (m_ranges := m_ranges) (m_nodes := m_nodes) (m_at := m_at) (m_flags := m_flags) (m_fault := 10) (m_place := m_at) (m_numbered := m_numbered) (m_depth := m_depth) (m_value := m_value) (m_isNot := m_isNot) (m_least0 := m_least0) (m_most0 := m_most0) (m_slot := m_slot) (m_work := m_work) (m_got := m_got) (m_rowMany := m_rowMany) (m_charAt := m_charAt) (m_charWide := m_charWide) (m_trail := m_trail) (m_isMatch := m_isMatch) (m_matchGroups := m_matchGroups) (m_allFrom := m_allFrom) (m_allBefore := m_allBefore) (m_founds := m_founds) (m_pieces := m_pieces) (m_writtenMany := m_writtenMany) (m_templateWide := m_templateWide) (m_tooMuch := m_tooMuch) (A_tape := A_tape) (wh := m_at) (on := on214) (fb := 0) (r0 := (flgS A_tape m_taped (Int.toNat (m_taped + 3)) (m_at + 2) 0 0 0)) (G0 := G110) (nw := nw212) (k := (k213 + 1)) (of := 0) (kr := kq8) (by omega) jtp (by omega) (by omega) (by omega) (by omega) (Int.toNat (m_taped - m_at - (k213 + 1)) + 1) h80 h84 (by omega) (by rw [fland_0 (by omega)]; exact hq17) hfm_ (by rw [show m_at + (k213 + 1) = m_at + k213 + 1 by omega]; left; exact ⟨rfl, rfl, by omega⟩) fx.rf rfl rfl (by omega) (fun G113 nw2114 k2115 of2116 kr2117 hq118 hq119 hq120 hq121 hq122 hfk hlk hsk => ?_)
                      · have h80 := hfk.get h80 (by decide)
                        have h84 := hfk.get h84 (by decide)
                        have h87 := hfk.get h87 (by decide)
                        have h88 := hfk.get h88 (by decide)
                        have h93 := hfk.get h93 (by decide)
                        have h81 := hfk.get h81 (by decide)
                        have h82 := hfk.get h82 (by decide)
                        have h91 := hfk.get h91 (by decide)
                        have h92 := hfk.get h92 (by decide)
                        have h110 := hfk.get h110 (by decide)
                        have h111 := hfk.get h111 (by decide)
                        have ptrI_0 := trI.fr hfk ptrI_0 (by decide) (by decide) (by decide) (by decide) (by decide) (by decide) (by decide) (by decide) (by decide) (by decide) (by decide) (by decide) (by decide) (by decide) (by decide) (by decide) (by decide) (by decide)
                        have hfr := hfr.tr hfk (by decide)
                        have hlen := hlk.trans hlen
                        have hsl := hsk.trans hsl
                        change ab_W _ _ _ G113 145 [some (vR 80), some (vz m_at), some (vz nw2114), some (vz k2115), none] [] _
                        obtain ⟨kq7, hkq7⟩ : ∃ z : Nat, kr2117 = z + 1 := ⟨kr2117 - 1, by omega⟩
                        refine ab_aload_n d_MO_readGroup_145 rfl ?_
                        refine ab_iload_n d_MO_readGroup_146 rfl ?_
                        refine ab_callV (d' := d - 1) (as := [vz k2115]) (st := []) (r := _) (z_MO_here (o := o) (m_thrown := m_thrown) (m_taped := m_taped) (m_length := m_length) (m_out := m_out) (m_wide := m_wide) (m_gathered := m_gathered) (m_sets := m_sets) (m_ranges := m_ranges) (m_nodes := m_nodes) (m_at := m_at) (m_flags := m_flags) (m_fault := 10) (m_place := m_at) (m_numbered := m_numbered) (m_depth := m_depth) (m_value := m_value) (m_isNot := m_isNot) (m_least0 := m_least0) (m_most0 := m_most0) (m_slot := m_slot) (m_work := m_work) (m_got := m_got) (m_rowMany := m_rowMany) (m_charAt := m_charAt) (m_charWide := m_charWide) (m_trail := m_trail) (m_isMatch := m_isMatch) (m_matchGroups := m_matchGroups) (m_allFrom := m_allFrom) (m_allBefore := m_allBefore) (m_founds := m_founds) (m_pieces := m_pieces) (m_writtenMany := m_writtenMany) (m_templateWide := m_templateWide) (m_tooMuch := m_tooMuch) (A_tape := A_tape) (k := k2115) (qh := (m_at + k2115)) h80 h84 (by omega) (by omega) jtp (by omega) (by omega)) (fun oc G2 h => by rcases h with ⟨h, _⟩ | ⟨h, _⟩ <;> exact ⟨_, h⟩) (by omega) m_MO_here ml_MO_297 im_MO_here se_MO_here c_MO h80.2.2 (Nat.le_of_ble_eq_true rfl) d_MO_readGroup_147 rfl ?_
                        intro v G123 hq
                        rcases hq with ⟨hv, hGe, hq124⟩ | ⟨hv, hGe, hq125, hq126⟩
                        · cases hv
                          rw [hGe]
                          change ab_W _ _ _ G113 150 [some (vR 80), some (vz m_at), some (vz nw2114), some (vz k2115), none] [vz (tpk A_tape m_taped (m_at + k2115))] _
                          refine ab_istore d_MO_readGroup_150 (Nat.le_of_ble_eq_true rfl) (Nat.le_of_ble_eq_true rfl) rfl ?_
                          change ab_W _ _ _ G113 152 [some (vR 80), some (vz m_at), some (vz nw2114), some (vz k2115), some (vz (tpk A_tape m_taped (m_at + k2115)))] [] _
                          refine ab_iload d_MO_readGroup_152 rfl ?_
                          refine zz_bipush d_MO_readGroup_154 (by decide) ?_
                          refine zz_icmp_eq (tgt := 176) d_MO_readGroup_156 (by decide) (by omega) (by decide) (fun c127 => ?_) (fun c127 => ?_)
                          · refine ab_iload d_MO_readGroup_176 rfl ?_
                            refine zz_bipush d_MO_readGroup_178 (by decide) ?_
                            refine zz_icmp_ne (tgt := 199) d_MO_readGroup_180 (by decide) (by omega) (by decide) (fun c128 => absurd c128 (by omega)) (fun c128 => ?_)
                            refine ab_aload_n d_MO_readGroup_183 rfl ?_
                            refine ab_getf (fs := mof m_thrown m_taped m_length m_out m_wide m_gathered m_sets m_ranges m_nodes m_at m_flags 10 m_at m_numbered m_depth m_value m_isNot m_least0 m_most0 m_slot m_work m_got m_rowMany m_charAt m_charWide m_trail m_isMatch m_matchGroups m_allFrom m_allBefore m_founds m_pieces m_writtenMany m_templateWide m_tooMuch) f_MO_282 d_MO_readGroup_184 h80.2.2 rfl ?_
                            refine zz_bipush d_MO_readGroup_187 (by decide) ?_
                            refine zz_icmp_ne (tgt := 199) d_MO_readGroup_189 (by decide) (by omega) (by decide) (fun c129 => ?_) (fun c129 => ?_)
                            · refine ab_aload_n d_MO_readGroup_199 rfl ?_
                              refine ab_getf (fs := mof m_thrown m_taped m_length m_out m_wide m_gathered m_sets m_ranges m_nodes m_at m_flags 10 m_at m_numbered m_depth m_value m_isNot m_least0 m_most0 m_slot m_work m_got m_rowMany m_charAt m_charWide m_trail m_isMatch m_matchGroups m_allFrom m_allBefore m_founds m_pieces m_writtenMany m_templateWide m_tooMuch) f_MO_273 d_MO_readGroup_200 h80.2.2 rfl ?_
                              refine zz_if_le (tgt := 207) d_MO_readGroup_203 (by decide) (by decide) (fun c130 => absurd c130 (by decide)) (fun c130 => ?_)
                              refine ab_vret rfl d_MO_readGroup_206 ?_
                              rw [hQ]; exact (Or.inr ⟨_, _, _, _, _, _, _, _, _, _, _, _, _, _, _, _, _, _, _, _, _, _, ((a1_, b1_, c1_, d1_, e1_) :: t1_), rp, ls, SV, ((ao1_, ro1_) :: ts1_), ro, vv, rfl, hfr, hlen, hsl, h80, h87, h88, h93, h91, h92, h110, h111, ptrI_0, (by omega), (by first | exact jmk | exact rgs_w jmk (by omega)), (by first | exact jrl | exact rgs_w jrl (by omega)), (by first | exact jrh | exact rgs_w jrh (by omega)), (by first | exact jns | exact rgs_w jns (by omega)), (by first | exact jnm | exact rgs_w jnm (by omega)), (by exact sf_o (by omega) (of_f (by omega) (by omega) (Or.inr ⟨_, _, _, (by have t_ := flgS_end hq120 hkq7 (by omega); rw [show of2116 = 0 by omega] at t_; exact t_), by decide⟩)))⟩)
                            · refine ab_aload_n d_MO_readGroup_192 rfl ?_
                              refine zz_bipush d_MO_readGroup_193 (by decide) ?_
                              refine ab_iload_n d_MO_readGroup_195 rfl ?_
                              refine ab_callV (d' := d - 1) (as := [vz 12, vz m_at]) (st := []) (r := _) (z_MO_wrong (o := o) (m_thrown := m_thrown) (m_taped := m_taped) (m_length := m_length) (m_out := m_out) (m_wide := m_wide) (m_gathered := m_gathered) (m_sets := m_sets) (m_ranges := m_ranges) (m_nodes := m_nodes) (m_at := m_at) (m_flags := m_flags) (m_fault := 10) (m_place := m_at) (m_numbered := m_numbered) (m_depth := m_depth) (m_value := m_value) (m_isNot := m_isNot) (m_least0 := m_least0) (m_most0 := m_most0) (m_slot := m_slot) (m_work := m_work) (m_got := m_got) (m_rowMany := m_rowMany) (m_charAt := m_charAt) (m_charWide := m_charWide) (m_trail := m_trail) (m_isMatch := m_isMatch) (m_matchGroups := m_matchGroups) (m_allFrom := m_allFrom) (m_allBefore := m_allBefore) (m_founds := m_founds) (m_pieces := m_pieces) (m_writtenMany := m_writtenMany) (m_templateWide := m_templateWide) (m_tooMuch := m_tooMuch) (x := 12) (y := m_at) h80 (by omega) (by omega)) (fun oc G2 h => by rcases h with ⟨h, _⟩ | ⟨h, _⟩ <;> exact ⟨_, h⟩) (by omega) m_MO_wrong ml_MO_304 im_MO_wrong se_MO_wrong c_MO h80.2.2 (Nat.le_of_ble_eq_true rfl) d_MO_readGroup_196 rfl ?_
                              intro v G131 hq
                              rcases hq with ⟨hv, hfk, hlk, hsk, hN80, hq132⟩ | ⟨hv, hGe, hq133⟩
                              · cases hv
                                have h84 := hfk.get h84 (by decide)
                                have h87 := hfk.get h87 (by decide)
                                have h88 := hfk.get h88 (by decide)
                                have h93 := hfk.get h93 (by decide)
                                have h81 := hfk.get h81 (by decide)
                                have h82 := hfk.get h82 (by decide)
                                have h91 := hfk.get h91 (by decide)
                                have h92 := hfk.get h92 (by decide)
                                have h110 := hfk.get h110 (by decide)
                                have h111 := hfk.get h111 (by decide)
                                have ptrI_0 := trI.fr hfk ptrI_0 (by decide) (by decide) (by decide) (by decide) (by decide) (by decide) (by decide) (by decide) (by decide) (by decide) (by decide) (by decide) (by decide) (by decide) (by decide) (by decide) (by decide) (by decide)
                                have hfr := hfr.tr hfk (by decide)
                                have hlen := hlk.trans hlen
                                have hsl := hsk.trans hsl
                                have h80 := hN80
                                change ab_W _ _ _ G131 199 [some (vR 80), some (vz m_at), some (vz nw2114), some (vz k2115), some (vz (tpk A_tape m_taped (m_at + k2115)))] [] _
                                exfalso; omega
                              · cases hv
                                rw [hGe]
                                change ab_W _ _ _ G113 199 [some (vR 80), some (vz m_at), some (vz nw2114), some (vz k2115), some (vz (tpk A_tape m_taped (m_at + k2115)))] [] _
                                refine ab_aload_n d_MO_readGroup_199 rfl ?_
                                refine ab_getf (fs := mof m_thrown m_taped m_length m_out m_wide m_gathered m_sets m_ranges m_nodes m_at m_flags 10 m_at m_numbered m_depth m_value m_isNot m_least0 m_most0 m_slot m_work m_got m_rowMany m_charAt m_charWide m_trail m_isMatch m_matchGroups m_allFrom m_allBefore m_founds m_pieces m_writtenMany m_templateWide m_tooMuch) f_MO_273 d_MO_readGroup_200 h80.2.2 rfl ?_
                                refine zz_if_le (tgt := 207) d_MO_readGroup_203 (by decide) (by decide) (fun c134 => absurd c134 (by decide)) (fun c134 => ?_)
                                refine ab_vret rfl d_MO_readGroup_206 ?_
                                rw [hQ]; exact (Or.inr ⟨_, _, _, _, _, _, _, _, _, _, _, _, _, _, _, _, _, _, _, _, _, _, ((a1_, b1_, c1_, d1_, e1_) :: t1_), rp, ls, SV, ((ao1_, ro1_) :: ts1_), ro, vv, rfl, hfr, hlen, hsl, h80, h87, h88, h93, h91, h92, h110, h111, ptrI_0, (by omega), (by first | exact jmk | exact rgs_w jmk (by omega)), (by first | exact jrl | exact rgs_w jrl (by omega)), (by first | exact jrh | exact rgs_w jrh (by omega)), (by first | exact jns | exact rgs_w jns (by omega)), (by first | exact jnm | exact rgs_w jnm (by omega)), (by exact sf_o (by omega) (of_f (by omega) (by omega) (Or.inr ⟨_, _, _, (by have t_ := flgS_end hq120 hkq7 (by omega); rw [show of2116 = 0 by omega] at t_; exact t_), by decide⟩)))⟩)
                          · refine ab_iload d_MO_readGroup_159 rfl ?_
                            refine zz_bipush d_MO_readGroup_161 (by decide) ?_
                            refine zz_icmp_eq (tgt := 176) d_MO_readGroup_163 (by decide) (by omega) (by decide) (fun c135 => ?_) (fun c135 => ?_)
                            · refine ab_iload d_MO_readGroup_176 rfl ?_
                              refine zz_bipush d_MO_readGroup_178 (by decide) ?_
                              refine zz_icmp_ne (tgt := 199) d_MO_readGroup_180 (by decide) (by omega) (by decide) (fun c136 => ?_) (fun c136 => absurd c136 (by omega))
                              refine ab_aload_n d_MO_readGroup_199 rfl ?_
                              refine ab_getf (fs := mof m_thrown m_taped m_length m_out m_wide m_gathered m_sets m_ranges m_nodes m_at m_flags 10 m_at m_numbered m_depth m_value m_isNot m_least0 m_most0 m_slot m_work m_got m_rowMany m_charAt m_charWide m_trail m_isMatch m_matchGroups m_allFrom m_allBefore m_founds m_pieces m_writtenMany m_templateWide m_tooMuch) f_MO_273 d_MO_readGroup_200 h80.2.2 rfl ?_
                              refine zz_if_le (tgt := 207) d_MO_readGroup_203 (by decide) (by decide) (fun c137 => absurd c137 (by decide)) (fun c137 => ?_)
                              refine ab_vret rfl d_MO_readGroup_206 ?_
                              rw [hQ]; exact (Or.inr ⟨_, _, _, _, _, _, _, _, _, _, _, _, _, _, _, _, _, _, _, _, _, _, ((a1_, b1_, c1_, d1_, e1_) :: t1_), rp, ls, SV, ((ao1_, ro1_) :: ts1_), ro, vv, rfl, hfr, hlen, hsl, h80, h87, h88, h93, h91, h92, h110, h111, ptrI_0, (by omega), (by first | exact jmk | exact rgs_w jmk (by omega)), (by first | exact jrl | exact rgs_w jrl (by omega)), (by first | exact jrh | exact rgs_w jrh (by omega)), (by first | exact jns | exact rgs_w jns (by omega)), (by first | exact jnm | exact rgs_w jnm (by omega)), (by exact sf_o (by omega) (of_f (by omega) (by omega) (Or.inr ⟨_, _, _, (by have t_ := flgS_end hq120 hkq7 (by omega); rw [show of2116 = 0 by omega] at t_; exact t_), by decide⟩)))⟩)
                            · refine ab_aload_n d_MO_readGroup_166 rfl ?_
                              refine zz_bipush d_MO_readGroup_167 (by decide) ?_
                              refine ab_iload_n d_MO_readGroup_169 rfl ?_
                              refine ab_callV (d' := d - 1) (as := [vz 10, vz m_at]) (st := []) (r := _) (z_MO_wrong (o := o) (m_thrown := m_thrown) (m_taped := m_taped) (m_length := m_length) (m_out := m_out) (m_wide := m_wide) (m_gathered := m_gathered) (m_sets := m_sets) (m_ranges := m_ranges) (m_nodes := m_nodes) (m_at := m_at) (m_flags := m_flags) (m_fault := 10) (m_place := m_at) (m_numbered := m_numbered) (m_depth := m_depth) (m_value := m_value) (m_isNot := m_isNot) (m_least0 := m_least0) (m_most0 := m_most0) (m_slot := m_slot) (m_work := m_work) (m_got := m_got) (m_rowMany := m_rowMany) (m_charAt := m_charAt) (m_charWide := m_charWide) (m_trail := m_trail) (m_isMatch := m_isMatch) (m_matchGroups := m_matchGroups) (m_allFrom := m_allFrom) (m_allBefore := m_allBefore) (m_founds := m_founds) (m_pieces := m_pieces) (m_writtenMany := m_writtenMany) (m_templateWide := m_templateWide) (m_tooMuch := m_tooMuch) (x := 10) (y := m_at) h80 (by omega) (by omega)) (fun oc G2 h => by rcases h with ⟨h, _⟩ | ⟨h, _⟩ <;> exact ⟨_, h⟩) (by omega) m_MO_wrong ml_MO_304 im_MO_wrong se_MO_wrong c_MO h80.2.2 (Nat.le_of_ble_eq_true rfl) d_MO_readGroup_170 rfl ?_
                              intro v G138 hq
                              rcases hq with ⟨hv, hfk, hlk, hsk, hN80, hq139⟩ | ⟨hv, hGe, hq140⟩
                              · cases hv
                                have h84 := hfk.get h84 (by decide)
                                have h87 := hfk.get h87 (by decide)
                                have h88 := hfk.get h88 (by decide)
                                have h93 := hfk.get h93 (by decide)
                                have h81 := hfk.get h81 (by decide)
                                have h82 := hfk.get h82 (by decide)
                                have h91 := hfk.get h91 (by decide)
                                have h92 := hfk.get h92 (by decide)
                                have h110 := hfk.get h110 (by decide)
                                have h111 := hfk.get h111 (by decide)
                                have ptrI_0 := trI.fr hfk ptrI_0 (by decide) (by decide) (by decide) (by decide) (by decide) (by decide) (by decide) (by decide) (by decide) (by decide) (by decide) (by decide) (by decide) (by decide) (by decide) (by decide) (by decide) (by decide)
                                have hfr := hfr.tr hfk (by decide)
                                have hlen := hlk.trans hlen
                                have hsl := hsk.trans hsl
                                have h80 := hN80
                                change ab_W _ _ _ G138 173 [some (vR 80), some (vz m_at), some (vz nw2114), some (vz k2115), some (vz (tpk A_tape m_taped (m_at + k2115)))] [] _
                                exfalso; omega
                              · cases hv
                                rw [hGe]
                                change ab_W _ _ _ G113 173 [some (vR 80), some (vz m_at), some (vz nw2114), some (vz k2115), some (vz (tpk A_tape m_taped (m_at + k2115)))] [] _
                                refine ab_goto (tgt := 199) d_MO_readGroup_173 (by decide) ?_
                                refine ab_aload_n d_MO_readGroup_199 rfl ?_
                                refine ab_getf (fs := mof m_thrown m_taped m_length m_out m_wide m_gathered m_sets m_ranges m_nodes m_at m_flags 10 m_at m_numbered m_depth m_value m_isNot m_least0 m_most0 m_slot m_work m_got m_rowMany m_charAt m_charWide m_trail m_isMatch m_matchGroups m_allFrom m_allBefore m_founds m_pieces m_writtenMany m_templateWide m_tooMuch) f_MO_273 d_MO_readGroup_200 h80.2.2 rfl ?_
                                refine zz_if_le (tgt := 207) d_MO_readGroup_203 (by decide) (by decide) (fun c141 => absurd c141 (by decide)) (fun c141 => ?_)
                                refine ab_vret rfl d_MO_readGroup_206 ?_
                                rw [hQ]; exact (Or.inr ⟨_, _, _, _, _, _, _, _, _, _, _, _, _, _, _, _, _, _, _, _, _, _, ((a1_, b1_, c1_, d1_, e1_) :: t1_), rp, ls, SV, ((ao1_, ro1_) :: ts1_), ro, vv, rfl, hfr, hlen, hsl, h80, h87, h88, h93, h91, h92, h110, h111, ptrI_0, (by omega), (by first | exact jmk | exact rgs_w jmk (by omega)), (by first | exact jrl | exact rgs_w jrl (by omega)), (by first | exact jrh | exact rgs_w jrh (by omega)), (by first | exact jns | exact rgs_w jns (by omega)), (by first | exact jnm | exact rgs_w jnm (by omega)), (by exact sf_o (by omega) (of_f (by omega) (by omega) (Or.inl (flgS_bad hq120 hkq7 (by omega) hq121 (by omega)))))⟩)
                        · cases hv
                          rw [hGe]
                          change ab_W _ _ _ G113 150 [some (vR 80), some (vz m_at), some (vz nw2114), some (vz k2115), none] [vz (-1)] _
                          refine ab_istore d_MO_readGroup_150 (Nat.le_of_ble_eq_true rfl) (Nat.le_of_ble_eq_true rfl) rfl ?_
                          change ab_W _ _ _ G113 152 [some (vR 80), some (vz m_at), some (vz nw2114), some (vz k2115), some (vz (-1))] [] _
                          refine ab_iload d_MO_readGroup_152 rfl ?_
                          refine zz_bipush d_MO_readGroup_154 (by decide) ?_
                          refine zz_icmp_eq (tgt := 176) d_MO_readGroup_156 (by decide) (by decide) (by decide) (fun c142 => absurd c142 (by decide)) (fun c142 => ?_)
                          refine ab_iload d_MO_readGroup_159 rfl ?_
                          refine zz_bipush d_MO_readGroup_161 (by decide) ?_
                          refine zz_icmp_eq (tgt := 176) d_MO_readGroup_163 (by decide) (by decide) (by decide) (fun c143 => absurd c143 (by decide)) (fun c143 => ?_)
                          refine ab_aload_n d_MO_readGroup_166 rfl ?_
                          refine zz_bipush d_MO_readGroup_167 (by decide) ?_
                          refine ab_iload_n d_MO_readGroup_169 rfl ?_
                          refine ab_callV (d' := d - 1) (as := [vz 10, vz m_at]) (st := []) (r := _) (z_MO_wrong (o := o) (m_thrown := m_thrown) (m_taped := m_taped) (m_length := m_length) (m_out := m_out) (m_wide := m_wide) (m_gathered := m_gathered) (m_sets := m_sets) (m_ranges := m_ranges) (m_nodes := m_nodes) (m_at := m_at) (m_flags := m_flags) (m_fault := 10) (m_place := m_at) (m_numbered := m_numbered) (m_depth := m_depth) (m_value := m_value) (m_isNot := m_isNot) (m_least0 := m_least0) (m_most0 := m_most0) (m_slot := m_slot) (m_work := m_work) (m_got := m_got) (m_rowMany := m_rowMany) (m_charAt := m_charAt) (m_charWide := m_charWide) (m_trail := m_trail) (m_isMatch := m_isMatch) (m_matchGroups := m_matchGroups) (m_allFrom := m_allFrom) (m_allBefore := m_allBefore) (m_founds := m_founds) (m_pieces := m_pieces) (m_writtenMany := m_writtenMany) (m_templateWide := m_templateWide) (m_tooMuch := m_tooMuch) (x := 10) (y := m_at) h80 (by omega) (by omega)) (fun oc G2 h => by rcases h with ⟨h, _⟩ | ⟨h, _⟩ <;> exact ⟨_, h⟩) (by omega) m_MO_wrong ml_MO_304 im_MO_wrong se_MO_wrong c_MO h80.2.2 (Nat.le_of_ble_eq_true rfl) d_MO_readGroup_170 rfl ?_
                          intro v G144 hq
                          rcases hq with ⟨hv, hfk, hlk, hsk, hN80, hq145⟩ | ⟨hv, hGe, hq146⟩
                          · cases hv
                            have h84 := hfk.get h84 (by decide)
                            have h87 := hfk.get h87 (by decide)
                            have h88 := hfk.get h88 (by decide)
                            have h93 := hfk.get h93 (by decide)
                            have h81 := hfk.get h81 (by decide)
                            have h82 := hfk.get h82 (by decide)
                            have h91 := hfk.get h91 (by decide)
                            have h92 := hfk.get h92 (by decide)
                            have h110 := hfk.get h110 (by decide)
                            have h111 := hfk.get h111 (by decide)
                            have ptrI_0 := trI.fr hfk ptrI_0 (by decide) (by decide) (by decide) (by decide) (by decide) (by decide) (by decide) (by decide) (by decide) (by decide) (by decide) (by decide) (by decide) (by decide) (by decide) (by decide) (by decide) (by decide)
                            have hfr := hfr.tr hfk (by decide)
                            have hlen := hlk.trans hlen
                            have hsl := hsk.trans hsl
                            have h80 := hN80
                            change ab_W _ _ _ G144 173 [some (vR 80), some (vz m_at), some (vz nw2114), some (vz k2115), some (vz (-1))] [] _
                            exfalso; omega
                          · cases hv
                            rw [hGe]
                            change ab_W _ _ _ G113 173 [some (vR 80), some (vz m_at), some (vz nw2114), some (vz k2115), some (vz (-1))] [] _
                            refine ab_goto (tgt := 199) d_MO_readGroup_173 (by decide) ?_
                            refine ab_aload_n d_MO_readGroup_199 rfl ?_
                            refine ab_getf (fs := mof m_thrown m_taped m_length m_out m_wide m_gathered m_sets m_ranges m_nodes m_at m_flags 10 m_at m_numbered m_depth m_value m_isNot m_least0 m_most0 m_slot m_work m_got m_rowMany m_charAt m_charWide m_trail m_isMatch m_matchGroups m_allFrom m_allBefore m_founds m_pieces m_writtenMany m_templateWide m_tooMuch) f_MO_273 d_MO_readGroup_200 h80.2.2 rfl ?_
                            refine zz_if_le (tgt := 207) d_MO_readGroup_203 (by decide) (by decide) (fun c147 => absurd c147 (by decide)) (fun c147 => ?_)
                            refine ab_vret rfl d_MO_readGroup_206 ?_
                            rw [hQ]; exact (Or.inr ⟨_, _, _, _, _, _, _, _, _, _, _, _, _, _, _, _, _, _, _, _, _, _, ((a1_, b1_, c1_, d1_, e1_) :: t1_), rp, ls, SV, ((ao1_, ro1_) :: ts1_), ro, vv, rfl, hfr, hlen, hsl, h80, h87, h88, h93, h91, h92, h110, h111, ptrI_0, (by omega), (by first | exact jmk | exact rgs_w jmk (by omega)), (by first | exact jrl | exact rgs_w jrl (by omega)), (by first | exact jrh | exact rgs_w jrh (by omega)), (by first | exact jns | exact rgs_w jns (by omega)), (by first | exact jnm | exact rgs_w jnm (by omega)), (by exact sf_o (by omega) (of_f (by omega) (by omega) (Or.inl (flgS_bad hq120 hkq7 (by omega) hq121 (by omega)))))⟩)
                    · cases hv
                      rw [hGe]
                      change ab_W _ _ _ G11 115 [some (vR 80), some (vz m_at), some (vz nw212), some (vz (k213 + 1)), none] [] _
                      exfalso; omega
                · cases hv
                  rw [hGe]
                  change ab_W _ _ _ G11 102 [some (vR 80), some (vz m_at), some (vz nw212), some (vz (k213 + 1)), none] [vz (-1)] _
                  refine ab_callS (d' := d - 1) (as := [vz (-1)]) (st := []) (z_MO_flagOf (o := o) (c := (-1)) (by omega)) (fun oc G2 h => by rcases h with ⟨_, h, _⟩ <;> exact ⟨_, h⟩) (by omega) m_MO_flagOf ml_MO_389 st_MO_flagOf (Nat.le_of_ble_eq_true rfl) d_MO_readGroup_102 rfl ?_
                  intro v G148 hq
                  rcases hq with ⟨v149, hv, hGe, hq150, hq151, hq152, hq153⟩
                  cases hv
                  rw [hGe]
                  change ab_W _ _ _ G11 105 [some (vR 80), some (vz m_at), some (vz nw212), some (vz (k213 + 1)), none] [vz v149] _
                  have hf0154 : v149 = 0 := hq153.trans (by decide)
                  have hf0154b : fof (tpk A_tape m_taped (m_at + k213 + 1)) = 0 := by rw [show tpk A_tape m_taped (m_at + k213 + 1) = -1 by omega]; rfl
                  refine zz_if_ne (tgt := 115) d_MO_readGroup_105 (by decide) (by omega) (fun c155 => absurd c155 (by omega)) (fun c155 => ?_)
                  refine ab_aload_n d_MO_readGroup_108 rfl ?_
                  refine zz_bipush d_MO_readGroup_109 (by decide) ?_
                  refine ab_iload_n d_MO_readGroup_111 rfl ?_
                  refine ab_callV (d' := d - 1) (as := [vz 10, vz m_at]) (st := []) (r := _) (z_MO_wrong (o := o) (m_thrown := m_thrown) (m_taped := m_taped) (m_length := m_length) (m_out := m_out) (m_wide := m_wide) (m_gathered := m_gathered) (m_sets := m_sets) (m_ranges := m_ranges) (m_nodes := m_nodes) (m_at := m_at) (m_flags := m_flags) (m_fault := m_fault) (m_place := m_place) (m_numbered := m_numbered) (m_depth := m_depth) (m_value := m_value) (m_isNot := m_isNot) (m_least0 := m_least0) (m_most0 := m_most0) (m_slot := m_slot) (m_work := m_work) (m_got := m_got) (m_rowMany := m_rowMany) (m_charAt := m_charAt) (m_charWide := m_charWide) (m_trail := m_trail) (m_isMatch := m_isMatch) (m_matchGroups := m_matchGroups) (m_allFrom := m_allFrom) (m_allBefore := m_allBefore) (m_founds := m_founds) (m_pieces := m_pieces) (m_writtenMany := m_writtenMany) (m_templateWide := m_templateWide) (m_tooMuch := m_tooMuch) (x := 10) (y := m_at) h80 (by omega) (by omega)) (fun oc G2 h => by rcases h with ⟨h, _⟩ | ⟨h, _⟩ <;> exact ⟨_, h⟩) (by omega) m_MO_wrong ml_MO_304 im_MO_wrong se_MO_wrong c_MO h80.2.2 (Nat.le_of_ble_eq_true rfl) d_MO_readGroup_112 rfl ?_
                  intro v G156 hq
                  rcases hq with ⟨hv, hfk, hlk, hsk, hN80, hq157⟩ | ⟨hv, hGe, hq158⟩
                  · cases hv
                    have h84 := hfk.get h84 (by decide)
                    have h87 := hfk.get h87 (by decide)
                    have h88 := hfk.get h88 (by decide)
                    have h93 := hfk.get h93 (by decide)
                    have h81 := hfk.get h81 (by decide)
                    have h82 := hfk.get h82 (by decide)
                    have h91 := hfk.get h91 (by decide)
                    have h92 := hfk.get h92 (by decide)
                    have h110 := hfk.get h110 (by decide)
                    have h111 := hfk.get h111 (by decide)
                    have ptrI_0 := trI.fr hfk ptrI_0 (by decide) (by decide) (by decide) (by decide) (by decide) (by decide) (by decide) (by decide) (by decide) (by decide) (by decide) (by decide) (by decide) (by decide) (by decide) (by decide) (by decide) (by decide)
                    have hfr := hfr.tr hfk (by decide)
                    have hlen := hlk.trans hlen
                    have hsl := hsk.trans hsl
                    have h80 := hN80
                    change ab_W _ _ _ G156 115 [some (vR 80), some (vz m_at), some (vz nw212), some (vz (k213 + 1)), none] [] _
                    refine y_MO_readGroup_115 (m_thrown := m_thrown) (m_taped := m_taped) (m_length := m_length) (m_out := m_out) (m_wide := m_wide) (m_gathered := m_gathered) (m_sets := m_sets) (m_ranges := m_ranges) (m_nodes := m_nodes) (m_at := m_at) (m_flags := m_flags) (m_fault := 10) (m_place := m_at) (m_numbered := m_numbered) (m_depth := m_depth) (m_value := m_value) (m_isNot := m_isNot) (m_least0 := m_least0) (m_most0 := m_most0) (m_slot := m_slot) (m_work := m_work) (m_got := m_got) (m_rowMany := m_rowMany) (m_charAt := m_charAt) (m_charWide := m_charWide) (m_trail := m_trail) (m_isMatch := m_isMatch) (m_matchGroups := m_matchGroups) (m_allFrom := m_allFrom) (m_allBefore := m_allBefore) (m_founds := m_founds) (m_pieces := m_pieces) (m_writtenMany := m_writtenMany) (m_templateWide := m_templateWide) (m_tooMuch := m_tooMuch) (A_tape := A_tape) (wh := m_at) (on := on214) (fb := 0) (r0 := (flgS A_tape m_taped (Int.toNat (m_taped + 3)) (m_at + 2) 0 0 0)) (G0 := G156) (nw := nw212) (k := (k213 + 1)) (of := 0) (kr := kq8) (by omega) jtp (by omega) (by omega) (by omega) (by omega) (Int.toNat (m_taped - m_at - (k213 + 1)) + 1) h80 h84 (by omega) (by rw [fland_0 (by omega)]; exact hq17) hfm_ (by rw [show m_at + (k213 + 1) = m_at + k213 + 1 by omega]; left; exact ⟨rfl, rfl, by omega⟩) fx.rf rfl rfl (by omega) (fun G159 nw2160 k2161 of2162 kr2163 hq164 hq165 hq166 hq167 hq168 hfk hlk hsk => ?_)
                    · have h80 := hfk.get h80 (by decide)
                      have h84 := hfk.get h84 (by decide)
                      have h87 := hfk.get h87 (by decide)
                      have h88 := hfk.get h88 (by decide)
                      have h93 := hfk.get h93 (by decide)
                      have h81 := hfk.get h81 (by decide)
                      have h82 := hfk.get h82 (by decide)
                      have h91 := hfk.get h91 (by decide)
                      have h92 := hfk.get h92 (by decide)
                      have h110 := hfk.get h110 (by decide)
                      have h111 := hfk.get h111 (by decide)
                      have ptrI_0 := trI.fr hfk ptrI_0 (by decide) (by decide) (by decide) (by decide) (by decide) (by decide) (by decide) (by decide) (by decide) (by decide) (by decide) (by decide) (by decide) (by decide) (by decide) (by decide) (by decide) (by decide)
                      have hfr := hfr.tr hfk (by decide)
                      have hlen := hlk.trans hlen
                      have hsl := hsk.trans hsl
                      change ab_W _ _ _ G159 145 [some (vR 80), some (vz m_at), some (vz nw2160), some (vz k2161), none] [] _
                      obtain ⟨kq7, hkq7⟩ : ∃ z : Nat, kr2163 = z + 1 := ⟨kr2163 - 1, by omega⟩
                      refine ab_aload_n d_MO_readGroup_145 rfl ?_
                      refine ab_iload_n d_MO_readGroup_146 rfl ?_
                      refine ab_callV (d' := d - 1) (as := [vz k2161]) (st := []) (r := _) (z_MO_here (o := o) (m_thrown := m_thrown) (m_taped := m_taped) (m_length := m_length) (m_out := m_out) (m_wide := m_wide) (m_gathered := m_gathered) (m_sets := m_sets) (m_ranges := m_ranges) (m_nodes := m_nodes) (m_at := m_at) (m_flags := m_flags) (m_fault := 10) (m_place := m_at) (m_numbered := m_numbered) (m_depth := m_depth) (m_value := m_value) (m_isNot := m_isNot) (m_least0 := m_least0) (m_most0 := m_most0) (m_slot := m_slot) (m_work := m_work) (m_got := m_got) (m_rowMany := m_rowMany) (m_charAt := m_charAt) (m_charWide := m_charWide) (m_trail := m_trail) (m_isMatch := m_isMatch) (m_matchGroups := m_matchGroups) (m_allFrom := m_allFrom) (m_allBefore := m_allBefore) (m_founds := m_founds) (m_pieces := m_pieces) (m_writtenMany := m_writtenMany) (m_templateWide := m_templateWide) (m_tooMuch := m_tooMuch) (A_tape := A_tape) (k := k2161) (qh := (m_at + k2161)) h80 h84 (by omega) (by omega) jtp (by omega) (by omega)) (fun oc G2 h => by rcases h with ⟨h, _⟩ | ⟨h, _⟩ <;> exact ⟨_, h⟩) (by omega) m_MO_here ml_MO_297 im_MO_here se_MO_here c_MO h80.2.2 (Nat.le_of_ble_eq_true rfl) d_MO_readGroup_147 rfl ?_
                      intro v G169 hq
                      rcases hq with ⟨hv, hGe, hq170⟩ | ⟨hv, hGe, hq171, hq172⟩
                      · cases hv
                        rw [hGe]
                        change ab_W _ _ _ G159 150 [some (vR 80), some (vz m_at), some (vz nw2160), some (vz k2161), none] [vz (tpk A_tape m_taped (m_at + k2161))] _
                        refine ab_istore d_MO_readGroup_150 (Nat.le_of_ble_eq_true rfl) (Nat.le_of_ble_eq_true rfl) rfl ?_
                        change ab_W _ _ _ G159 152 [some (vR 80), some (vz m_at), some (vz nw2160), some (vz k2161), some (vz (tpk A_tape m_taped (m_at + k2161)))] [] _
                        refine ab_iload d_MO_readGroup_152 rfl ?_
                        refine zz_bipush d_MO_readGroup_154 (by decide) ?_
                        refine zz_icmp_eq (tgt := 176) d_MO_readGroup_156 (by decide) (by omega) (by decide) (fun c173 => ?_) (fun c173 => ?_)
                        · refine ab_iload d_MO_readGroup_176 rfl ?_
                          refine zz_bipush d_MO_readGroup_178 (by decide) ?_
                          refine zz_icmp_ne (tgt := 199) d_MO_readGroup_180 (by decide) (by omega) (by decide) (fun c174 => absurd c174 (by omega)) (fun c174 => ?_)
                          refine ab_aload_n d_MO_readGroup_183 rfl ?_
                          refine ab_getf (fs := mof m_thrown m_taped m_length m_out m_wide m_gathered m_sets m_ranges m_nodes m_at m_flags 10 m_at m_numbered m_depth m_value m_isNot m_least0 m_most0 m_slot m_work m_got m_rowMany m_charAt m_charWide m_trail m_isMatch m_matchGroups m_allFrom m_allBefore m_founds m_pieces m_writtenMany m_templateWide m_tooMuch) f_MO_282 d_MO_readGroup_184 h80.2.2 rfl ?_
                          refine zz_bipush d_MO_readGroup_187 (by decide) ?_
                          refine zz_icmp_ne (tgt := 199) d_MO_readGroup_189 (by decide) (by omega) (by decide) (fun c175 => ?_) (fun c175 => ?_)
                          · refine ab_aload_n d_MO_readGroup_199 rfl ?_
                            refine ab_getf (fs := mof m_thrown m_taped m_length m_out m_wide m_gathered m_sets m_ranges m_nodes m_at m_flags 10 m_at m_numbered m_depth m_value m_isNot m_least0 m_most0 m_slot m_work m_got m_rowMany m_charAt m_charWide m_trail m_isMatch m_matchGroups m_allFrom m_allBefore m_founds m_pieces m_writtenMany m_templateWide m_tooMuch) f_MO_273 d_MO_readGroup_200 h80.2.2 rfl ?_
                            refine zz_if_le (tgt := 207) d_MO_readGroup_203 (by decide) (by decide) (fun c176 => absurd c176 (by decide)) (fun c176 => ?_)
                            refine ab_vret rfl d_MO_readGroup_206 ?_
                            rw [hQ]; exact (Or.inr ⟨_, _, _, _, _, _, _, _, _, _, _, _, _, _, _, _, _, _, _, _, _, _, ((a1_, b1_, c1_, d1_, e1_) :: t1_), rp, ls, SV, ((ao1_, ro1_) :: ts1_), ro, vv, rfl, hfr, hlen, hsl, h80, h87, h88, h93, h91, h92, h110, h111, ptrI_0, (by omega), (by first | exact jmk | exact rgs_w jmk (by omega)), (by first | exact jrl | exact rgs_w jrl (by omega)), (by first | exact jrh | exact rgs_w jrh (by omega)), (by first | exact jns | exact rgs_w jns (by omega)), (by first | exact jnm | exact rgs_w jnm (by omega)), (by exact sf_o (by omega) (of_f (by omega) (by omega) (Or.inr ⟨_, _, _, (by have t_ := flgS_end hq166 hkq7 (by omega); rw [show of2162 = 0 by omega] at t_; exact t_), by decide⟩)))⟩)
                          · refine ab_aload_n d_MO_readGroup_192 rfl ?_
                            refine zz_bipush d_MO_readGroup_193 (by decide) ?_
                            refine ab_iload_n d_MO_readGroup_195 rfl ?_
                            refine ab_callV (d' := d - 1) (as := [vz 12, vz m_at]) (st := []) (r := _) (z_MO_wrong (o := o) (m_thrown := m_thrown) (m_taped := m_taped) (m_length := m_length) (m_out := m_out) (m_wide := m_wide) (m_gathered := m_gathered) (m_sets := m_sets) (m_ranges := m_ranges) (m_nodes := m_nodes) (m_at := m_at) (m_flags := m_flags) (m_fault := 10) (m_place := m_at) (m_numbered := m_numbered) (m_depth := m_depth) (m_value := m_value) (m_isNot := m_isNot) (m_least0 := m_least0) (m_most0 := m_most0) (m_slot := m_slot) (m_work := m_work) (m_got := m_got) (m_rowMany := m_rowMany) (m_charAt := m_charAt) (m_charWide := m_charWide) (m_trail := m_trail) (m_isMatch := m_isMatch) (m_matchGroups := m_matchGroups) (m_allFrom := m_allFrom) (m_allBefore := m_allBefore) (m_founds := m_founds) (m_pieces := m_pieces) (m_writtenMany := m_writtenMany) (m_templateWide := m_templateWide) (m_tooMuch := m_tooMuch) (x := 12) (y := m_at) h80 (by omega) (by omega)) (fun oc G2 h => by rcases h with ⟨h, _⟩ | ⟨h, _⟩ <;> exact ⟨_, h⟩) (by omega) m_MO_wrong ml_MO_304 im_MO_wrong se_MO_wrong c_MO h80.2.2 (Nat.le_of_ble_eq_true rfl) d_MO_readGroup_196 rfl ?_
                            intro v G177 hq
                            rcases hq with ⟨hv, hfk, hlk, hsk, hN80, hq178⟩ | ⟨hv, hGe, hq179⟩
                            · cases hv
                              have h84 := hfk.get h84 (by decide)
                              have h87 := hfk.get h87 (by decide)
                              have h88 := hfk.get h88 (by decide)
                              have h93 := hfk.get h93 (by decide)
                              have h81 := hfk.get h81 (by decide)
                              have h82 := hfk.get h82 (by decide)
                              have h91 := hfk.get h91 (by decide)
                              have h92 := hfk.get h92 (by decide)
                              have h110 := hfk.get h110 (by decide)
                              have h111 := hfk.get h111 (by decide)
                              have ptrI_0 := trI.fr hfk ptrI_0 (by decide) (by decide) (by decide) (by decide) (by decide) (by decide) (by decide) (by decide) (by decide) (by decide) (by decide) (by decide) (by decide) (by decide) (by decide) (by decide) (by decide) (by decide)
                              have hfr := hfr.tr hfk (by decide)
                              have hlen := hlk.trans hlen
                              have hsl := hsk.trans hsl
                              have h80 := hN80
                              change ab_W _ _ _ G177 199 [some (vR 80), some (vz m_at), some (vz nw2160), some (vz k2161), some (vz (tpk A_tape m_taped (m_at + k2161)))] [] _
                              exfalso; omega
                            · cases hv
                              rw [hGe]
                              change ab_W _ _ _ G159 199 [some (vR 80), some (vz m_at), some (vz nw2160), some (vz k2161), some (vz (tpk A_tape m_taped (m_at + k2161)))] [] _
                              refine ab_aload_n d_MO_readGroup_199 rfl ?_
                              refine ab_getf (fs := mof m_thrown m_taped m_length m_out m_wide m_gathered m_sets m_ranges m_nodes m_at m_flags 10 m_at m_numbered m_depth m_value m_isNot m_least0 m_most0 m_slot m_work m_got m_rowMany m_charAt m_charWide m_trail m_isMatch m_matchGroups m_allFrom m_allBefore m_founds m_pieces m_writtenMany m_templateWide m_tooMuch) f_MO_273 d_MO_readGroup_200 h80.2.2 rfl ?_
                              refine zz_if_le (tgt := 207) d_MO_readGroup_203 (by decide) (by decide) (fun c180 => absurd c180 (by decide)) (fun c180 => ?_)
                              refine ab_vret rfl d_MO_readGroup_206 ?_
                              rw [hQ]; exact (Or.inr ⟨_, _, _, _, _, _, _, _, _, _, _, _, _, _, _, _, _, _, _, _, _, _, ((a1_, b1_, c1_, d1_, e1_) :: t1_), rp, ls, SV, ((ao1_, ro1_) :: ts1_), ro, vv, rfl, hfr, hlen, hsl, h80, h87, h88, h93, h91, h92, h110, h111, ptrI_0, (by omega), (by first | exact jmk | exact rgs_w jmk (by omega)), (by first | exact jrl | exact rgs_w jrl (by omega)), (by first | exact jrh | exact rgs_w jrh (by omega)), (by first | exact jns | exact rgs_w jns (by omega)), (by first | exact jnm | exact rgs_w jnm (by omega)), (by exact sf_o (by omega) (of_f (by omega) (by omega) (Or.inr ⟨_, _, _, (by have t_ := flgS_end hq166 hkq7 (by omega); rw [show of2162 = 0 by omega] at t_; exact t_), by decide⟩)))⟩)
                        · refine ab_iload d_MO_readGroup_159 rfl ?_
                          refine zz_bipush d_MO_readGroup_161 (by decide) ?_
                          refine zz_icmp_eq (tgt := 176) d_MO_readGroup_163 (by decide) (by omega) (by decide) (fun c181 => ?_) (fun c181 => ?_)
                          · refine ab_iload d_MO_readGroup_176 rfl ?_
                            refine zz_bipush d_MO_readGroup_178 (by decide) ?_
                            refine zz_icmp_ne (tgt := 199) d_MO_readGroup_180 (by decide) (by omega) (by decide) (fun c182 => ?_) (fun c182 => absurd c182 (by omega))
                            refine ab_aload_n d_MO_readGroup_199 rfl ?_
                            refine ab_getf (fs := mof m_thrown m_taped m_length m_out m_wide m_gathered m_sets m_ranges m_nodes m_at m_flags 10 m_at m_numbered m_depth m_value m_isNot m_least0 m_most0 m_slot m_work m_got m_rowMany m_charAt m_charWide m_trail m_isMatch m_matchGroups m_allFrom m_allBefore m_founds m_pieces m_writtenMany m_templateWide m_tooMuch) f_MO_273 d_MO_readGroup_200 h80.2.2 rfl ?_
                            refine zz_if_le (tgt := 207) d_MO_readGroup_203 (by decide) (by decide) (fun c183 => absurd c183 (by decide)) (fun c183 => ?_)
                            refine ab_vret rfl d_MO_readGroup_206 ?_
                            rw [hQ]; exact (Or.inr ⟨_, _, _, _, _, _, _, _, _, _, _, _, _, _, _, _, _, _, _, _, _, _, ((a1_, b1_, c1_, d1_, e1_) :: t1_), rp, ls, SV, ((ao1_, ro1_) :: ts1_), ro, vv, rfl, hfr, hlen, hsl, h80, h87, h88, h93, h91, h92, h110, h111, ptrI_0, (by omega), (by first | exact jmk | exact rgs_w jmk (by omega)), (by first | exact jrl | exact rgs_w jrl (by omega)), (by first | exact jrh | exact rgs_w jrh (by omega)), (by first | exact jns | exact rgs_w jns (by omega)), (by first | exact jnm | exact rgs_w jnm (by omega)), (by exact sf_o (by omega) (of_f (by omega) (by omega) (Or.inr ⟨_, _, _, (by have t_ := flgS_end hq166 hkq7 (by omega); rw [show of2162 = 0 by omega] at t_; exact t_), by decide⟩)))⟩)
                          · refine ab_aload_n d_MO_readGroup_166 rfl ?_
                            refine zz_bipush d_MO_readGroup_167 (by decide) ?_
                            refine ab_iload_n d_MO_readGroup_169 rfl ?_
                            refine ab_callV (d' := d - 1) (as := [vz 10, vz m_at]) (st := []) (r := _) (z_MO_wrong (o := o) (m_thrown := m_thrown) (m_taped := m_taped) (m_length := m_length) (m_out := m_out) (m_wide := m_wide) (m_gathered := m_gathered) (m_sets := m_sets) (m_ranges := m_ranges) (m_nodes := m_nodes) (m_at := m_at) (m_flags := m_flags) (m_fault := 10) (m_place := m_at) (m_numbered := m_numbered) (m_depth := m_depth) (m_value := m_value) (m_isNot := m_isNot) (m_least0 := m_least0) (m_most0 := m_most0) (m_slot := m_slot) (m_work := m_work) (m_got := m_got) (m_rowMany := m_rowMany) (m_charAt := m_charAt) (m_charWide := m_charWide) (m_trail := m_trail) (m_isMatch := m_isMatch) (m_matchGroups := m_matchGroups) (m_allFrom := m_allFrom) (m_allBefore := m_allBefore) (m_founds := m_founds) (m_pieces := m_pieces) (m_writtenMany := m_writtenMany) (m_templateWide := m_templateWide) (m_tooMuch := m_tooMuch) (x := 10) (y := m_at) h80 (by omega) (by omega)) (fun oc G2 h => by rcases h with ⟨h, _⟩ | ⟨h, _⟩ <;> exact ⟨_, h⟩) (by omega) m_MO_wrong ml_MO_304 im_MO_wrong se_MO_wrong c_MO h80.2.2 (Nat.le_of_ble_eq_true rfl) d_MO_readGroup_170 rfl ?_
                            intro v G184 hq
                            rcases hq with ⟨hv, hfk, hlk, hsk, hN80, hq185⟩ | ⟨hv, hGe, hq186⟩
                            · cases hv
                              have h84 := hfk.get h84 (by decide)
                              have h87 := hfk.get h87 (by decide)
                              have h88 := hfk.get h88 (by decide)
                              have h93 := hfk.get h93 (by decide)
                              have h81 := hfk.get h81 (by decide)
                              have h82 := hfk.get h82 (by decide)
                              have h91 := hfk.get h91 (by decide)
                              have h92 := hfk.get h92 (by decide)
                              have h110 := hfk.get h110 (by decide)
                              have h111 := hfk.get h111 (by decide)
                              have ptrI_0 := trI.fr hfk ptrI_0 (by decide) (by decide) (by decide) (by decide) (by decide) (by decide) (by decide) (by decide) (by decide) (by decide) (by decide) (by decide) (by decide) (by decide) (by decide) (by decide) (by decide) (by decide)
                              have hfr := hfr.tr hfk (by decide)
                              have hlen := hlk.trans hlen
                              have hsl := hsk.trans hsl
                              have h80 := hN80
                              change ab_W _ _ _ G184 173 [some (vR 80), some (vz m_at), some (vz nw2160), some (vz k2161), some (vz (tpk A_tape m_taped (m_at + k2161)))] [] _
                              exfalso; omega
                            · cases hv
                              rw [hGe]
                              change ab_W _ _ _ G159 173 [some (vR 80), some (vz m_at), some (vz nw2160), some (vz k2161), some (vz (tpk A_tape m_taped (m_at + k2161)))] [] _
                              refine ab_goto (tgt := 199) d_MO_readGroup_173 (by decide) ?_
                              refine ab_aload_n d_MO_readGroup_199 rfl ?_
                              refine ab_getf (fs := mof m_thrown m_taped m_length m_out m_wide m_gathered m_sets m_ranges m_nodes m_at m_flags 10 m_at m_numbered m_depth m_value m_isNot m_least0 m_most0 m_slot m_work m_got m_rowMany m_charAt m_charWide m_trail m_isMatch m_matchGroups m_allFrom m_allBefore m_founds m_pieces m_writtenMany m_templateWide m_tooMuch) f_MO_273 d_MO_readGroup_200 h80.2.2 rfl ?_
                              refine zz_if_le (tgt := 207) d_MO_readGroup_203 (by decide) (by decide) (fun c187 => absurd c187 (by decide)) (fun c187 => ?_)
                              refine ab_vret rfl d_MO_readGroup_206 ?_
                              rw [hQ]; exact (Or.inr ⟨_, _, _, _, _, _, _, _, _, _, _, _, _, _, _, _, _, _, _, _, _, _, ((a1_, b1_, c1_, d1_, e1_) :: t1_), rp, ls, SV, ((ao1_, ro1_) :: ts1_), ro, vv, rfl, hfr, hlen, hsl, h80, h87, h88, h93, h91, h92, h110, h111, ptrI_0, (by omega), (by first | exact jmk | exact rgs_w jmk (by omega)), (by first | exact jrl | exact rgs_w jrl (by omega)), (by first | exact jrh | exact rgs_w jrh (by omega)), (by first | exact jns | exact rgs_w jns (by omega)), (by first | exact jnm | exact rgs_w jnm (by omega)), (by exact sf_o (by omega) (of_f (by omega) (by omega) (Or.inl (flgS_bad hq166 hkq7 (by omega) hq167 (by omega)))))⟩)
                      · cases hv
                        rw [hGe]
                        change ab_W _ _ _ G159 150 [some (vR 80), some (vz m_at), some (vz nw2160), some (vz k2161), none] [vz (-1)] _
                        refine ab_istore d_MO_readGroup_150 (Nat.le_of_ble_eq_true rfl) (Nat.le_of_ble_eq_true rfl) rfl ?_
                        change ab_W _ _ _ G159 152 [some (vR 80), some (vz m_at), some (vz nw2160), some (vz k2161), some (vz (-1))] [] _
                        refine ab_iload d_MO_readGroup_152 rfl ?_
                        refine zz_bipush d_MO_readGroup_154 (by decide) ?_
                        refine zz_icmp_eq (tgt := 176) d_MO_readGroup_156 (by decide) (by decide) (by decide) (fun c188 => absurd c188 (by decide)) (fun c188 => ?_)
                        refine ab_iload d_MO_readGroup_159 rfl ?_
                        refine zz_bipush d_MO_readGroup_161 (by decide) ?_
                        refine zz_icmp_eq (tgt := 176) d_MO_readGroup_163 (by decide) (by decide) (by decide) (fun c189 => absurd c189 (by decide)) (fun c189 => ?_)
                        refine ab_aload_n d_MO_readGroup_166 rfl ?_
                        refine zz_bipush d_MO_readGroup_167 (by decide) ?_
                        refine ab_iload_n d_MO_readGroup_169 rfl ?_
                        refine ab_callV (d' := d - 1) (as := [vz 10, vz m_at]) (st := []) (r := _) (z_MO_wrong (o := o) (m_thrown := m_thrown) (m_taped := m_taped) (m_length := m_length) (m_out := m_out) (m_wide := m_wide) (m_gathered := m_gathered) (m_sets := m_sets) (m_ranges := m_ranges) (m_nodes := m_nodes) (m_at := m_at) (m_flags := m_flags) (m_fault := 10) (m_place := m_at) (m_numbered := m_numbered) (m_depth := m_depth) (m_value := m_value) (m_isNot := m_isNot) (m_least0 := m_least0) (m_most0 := m_most0) (m_slot := m_slot) (m_work := m_work) (m_got := m_got) (m_rowMany := m_rowMany) (m_charAt := m_charAt) (m_charWide := m_charWide) (m_trail := m_trail) (m_isMatch := m_isMatch) (m_matchGroups := m_matchGroups) (m_allFrom := m_allFrom) (m_allBefore := m_allBefore) (m_founds := m_founds) (m_pieces := m_pieces) (m_writtenMany := m_writtenMany) (m_templateWide := m_templateWide) (m_tooMuch := m_tooMuch) (x := 10) (y := m_at) h80 (by omega) (by omega)) (fun oc G2 h => by rcases h with ⟨h, _⟩ | ⟨h, _⟩ <;> exact ⟨_, h⟩) (by omega) m_MO_wrong ml_MO_304 im_MO_wrong se_MO_wrong c_MO h80.2.2 (Nat.le_of_ble_eq_true rfl) d_MO_readGroup_170 rfl ?_
                        intro v G190 hq
                        rcases hq with ⟨hv, hfk, hlk, hsk, hN80, hq191⟩ | ⟨hv, hGe, hq192⟩
                        · cases hv
                          have h84 := hfk.get h84 (by decide)
                          have h87 := hfk.get h87 (by decide)
                          have h88 := hfk.get h88 (by decide)
                          have h93 := hfk.get h93 (by decide)
                          have h81 := hfk.get h81 (by decide)
                          have h82 := hfk.get h82 (by decide)
                          have h91 := hfk.get h91 (by decide)
                          have h92 := hfk.get h92 (by decide)
                          have h110 := hfk.get h110 (by decide)
                          have h111 := hfk.get h111 (by decide)
                          have ptrI_0 := trI.fr hfk ptrI_0 (by decide) (by decide) (by decide) (by decide) (by decide) (by decide) (by decide) (by decide) (by decide) (by decide) (by decide) (by decide) (by decide) (by decide) (by decide) (by decide) (by decide) (by decide)
                          have hfr := hfr.tr hfk (by decide)
                          have hlen := hlk.trans hlen
                          have hsl := hsk.trans hsl
                          have h80 := hN80
                          change ab_W _ _ _ G190 173 [some (vR 80), some (vz m_at), some (vz nw2160), some (vz k2161), some (vz (-1))] [] _
                          exfalso; omega
                        · cases hv
                          rw [hGe]
                          change ab_W _ _ _ G159 173 [some (vR 80), some (vz m_at), some (vz nw2160), some (vz k2161), some (vz (-1))] [] _
                          refine ab_goto (tgt := 199) d_MO_readGroup_173 (by decide) ?_
                          refine ab_aload_n d_MO_readGroup_199 rfl ?_
                          refine ab_getf (fs := mof m_thrown m_taped m_length m_out m_wide m_gathered m_sets m_ranges m_nodes m_at m_flags 10 m_at m_numbered m_depth m_value m_isNot m_least0 m_most0 m_slot m_work m_got m_rowMany m_charAt m_charWide m_trail m_isMatch m_matchGroups m_allFrom m_allBefore m_founds m_pieces m_writtenMany m_templateWide m_tooMuch) f_MO_273 d_MO_readGroup_200 h80.2.2 rfl ?_
                          refine zz_if_le (tgt := 207) d_MO_readGroup_203 (by decide) (by decide) (fun c193 => absurd c193 (by decide)) (fun c193 => ?_)
                          refine ab_vret rfl d_MO_readGroup_206 ?_
                          rw [hQ]; exact (Or.inr ⟨_, _, _, _, _, _, _, _, _, _, _, _, _, _, _, _, _, _, _, _, _, _, ((a1_, b1_, c1_, d1_, e1_) :: t1_), rp, ls, SV, ((ao1_, ro1_) :: ts1_), ro, vv, rfl, hfr, hlen, hsl, h80, h87, h88, h93, h91, h92, h110, h111, ptrI_0, (by omega), (by first | exact jmk | exact rgs_w jmk (by omega)), (by first | exact jrl | exact rgs_w jrl (by omega)), (by first | exact jrh | exact rgs_w jrh (by omega)), (by first | exact jns | exact rgs_w jns (by omega)), (by first | exact jnm | exact rgs_w jnm (by omega)), (by exact sf_o (by omega) (of_f (by omega) (by omega) (Or.inl (flgS_bad hq166 hkq7 (by omega) hq167 (by omega)))))⟩)
                  · cases hv
                    rw [hGe]
                    change ab_W _ _ _ G11 115 [some (vR 80), some (vz m_at), some (vz nw212), some (vz (k213 + 1)), none] [] _
                    exfalso; omega
            · cases hv
              rw [hGe]
              change ab_W _ _ _ G11 89 [some (vR 80), some (vz m_at), some (vz nw212), some (vz k213), none] [vz (-1)] _
              refine zz_bipush d_MO_readGroup_89 (by decide) ?_
              refine zz_icmp_ne (tgt := 145) d_MO_readGroup_91 (by decide) (by decide) (by decide) (fun c194 => ?_) (fun c194 => absurd c194 (by decide))
              obtain ⟨kq7, hkq7⟩ : ∃ z : Nat, kr215 = z + 1 := ⟨kr215 - 1, by omega⟩
              refine ab_aload_n d_MO_readGroup_145 rfl ?_
              refine ab_iload_n d_MO_readGroup_146 rfl ?_
              refine ab_callV (d' := d - 1) (as := [vz k213]) (st := []) (r := _) (z_MO_here (o := o) (m_thrown := m_thrown) (m_taped := m_taped) (m_length := m_length) (m_out := m_out) (m_wide := m_wide) (m_gathered := m_gathered) (m_sets := m_sets) (m_ranges := m_ranges) (m_nodes := m_nodes) (m_at := m_at) (m_flags := m_flags) (m_fault := m_fault) (m_place := m_place) (m_numbered := m_numbered) (m_depth := m_depth) (m_value := m_value) (m_isNot := m_isNot) (m_least0 := m_least0) (m_most0 := m_most0) (m_slot := m_slot) (m_work := m_work) (m_got := m_got) (m_rowMany := m_rowMany) (m_charAt := m_charAt) (m_charWide := m_charWide) (m_trail := m_trail) (m_isMatch := m_isMatch) (m_matchGroups := m_matchGroups) (m_allFrom := m_allFrom) (m_allBefore := m_allBefore) (m_founds := m_founds) (m_pieces := m_pieces) (m_writtenMany := m_writtenMany) (m_templateWide := m_templateWide) (m_tooMuch := m_tooMuch) (A_tape := A_tape) (k := k213) (qh := (m_at + k213)) h80 h84 (by omega) (by omega) jtp (by omega) (by omega)) (fun oc G2 h => by rcases h with ⟨h, _⟩ | ⟨h, _⟩ <;> exact ⟨_, h⟩) (by omega) m_MO_here ml_MO_297 im_MO_here se_MO_here c_MO h80.2.2 (Nat.le_of_ble_eq_true rfl) d_MO_readGroup_147 rfl ?_
              intro v G195 hq
              rcases hq with ⟨hv, hGe, hq196⟩ | ⟨hv, hGe, hq197, hq198⟩
              · cases hv
                rw [hGe]
                change ab_W _ _ _ G11 150 [some (vR 80), some (vz m_at), some (vz nw212), some (vz k213), none] [vz (tpk A_tape m_taped (m_at + k213))] _
                exfalso; omega
              · cases hv
                rw [hGe]
                change ab_W _ _ _ G11 150 [some (vR 80), some (vz m_at), some (vz nw212), some (vz k213), none] [vz (-1)] _
                refine ab_istore d_MO_readGroup_150 (Nat.le_of_ble_eq_true rfl) (Nat.le_of_ble_eq_true rfl) rfl ?_
                change ab_W _ _ _ G11 152 [some (vR 80), some (vz m_at), some (vz nw212), some (vz k213), some (vz (-1))] [] _
                refine ab_iload d_MO_readGroup_152 rfl ?_
                refine zz_bipush d_MO_readGroup_154 (by decide) ?_
                refine zz_icmp_eq (tgt := 176) d_MO_readGroup_156 (by decide) (by decide) (by decide) (fun c199 => absurd c199 (by decide)) (fun c199 => ?_)
                refine ab_iload d_MO_readGroup_159 rfl ?_
                refine zz_bipush d_MO_readGroup_161 (by decide) ?_
                refine zz_icmp_eq (tgt := 176) d_MO_readGroup_163 (by decide) (by decide) (by decide) (fun c200 => absurd c200 (by decide)) (fun c200 => ?_)
                refine ab_aload_n d_MO_readGroup_166 rfl ?_
                refine zz_bipush d_MO_readGroup_167 (by decide) ?_
                refine ab_iload_n d_MO_readGroup_169 rfl ?_
                refine ab_callV (d' := d - 1) (as := [vz 10, vz m_at]) (st := []) (r := _) (z_MO_wrong (o := o) (m_thrown := m_thrown) (m_taped := m_taped) (m_length := m_length) (m_out := m_out) (m_wide := m_wide) (m_gathered := m_gathered) (m_sets := m_sets) (m_ranges := m_ranges) (m_nodes := m_nodes) (m_at := m_at) (m_flags := m_flags) (m_fault := m_fault) (m_place := m_place) (m_numbered := m_numbered) (m_depth := m_depth) (m_value := m_value) (m_isNot := m_isNot) (m_least0 := m_least0) (m_most0 := m_most0) (m_slot := m_slot) (m_work := m_work) (m_got := m_got) (m_rowMany := m_rowMany) (m_charAt := m_charAt) (m_charWide := m_charWide) (m_trail := m_trail) (m_isMatch := m_isMatch) (m_matchGroups := m_matchGroups) (m_allFrom := m_allFrom) (m_allBefore := m_allBefore) (m_founds := m_founds) (m_pieces := m_pieces) (m_writtenMany := m_writtenMany) (m_templateWide := m_templateWide) (m_tooMuch := m_tooMuch) (x := 10) (y := m_at) h80 (by omega) (by omega)) (fun oc G2 h => by rcases h with ⟨h, _⟩ | ⟨h, _⟩ <;> exact ⟨_, h⟩) (by omega) m_MO_wrong ml_MO_304 im_MO_wrong se_MO_wrong c_MO h80.2.2 (Nat.le_of_ble_eq_true rfl) d_MO_readGroup_170 rfl ?_
                intro v G201 hq
                rcases hq with ⟨hv, hfk, hlk, hsk, hN80, hq202⟩ | ⟨hv, hGe, hq203⟩
                · cases hv
                  have h84 := hfk.get h84 (by decide)
                  have h87 := hfk.get h87 (by decide)
                  have h88 := hfk.get h88 (by decide)
                  have h93 := hfk.get h93 (by decide)
                  have h81 := hfk.get h81 (by decide)
                  have h82 := hfk.get h82 (by decide)
                  have h91 := hfk.get h91 (by decide)
                  have h92 := hfk.get h92 (by decide)
                  have h110 := hfk.get h110 (by decide)
                  have h111 := hfk.get h111 (by decide)
                  have ptrI_0 := trI.fr hfk ptrI_0 (by decide) (by decide) (by decide) (by decide) (by decide) (by decide) (by decide) (by decide) (by decide) (by decide) (by decide) (by decide) (by decide) (by decide) (by decide) (by decide) (by decide) (by decide)
                  have hfr := hfr.tr hfk (by decide)
                  have hlen := hlk.trans hlen
                  have hsl := hsk.trans hsl
                  have h80 := hN80
                  change ab_W _ _ _ G201 173 [some (vR 80), some (vz m_at), some (vz nw212), some (vz k213), some (vz (-1))] [] _
                  refine ab_goto (tgt := 199) d_MO_readGroup_173 (by decide) ?_
                  refine ab_aload_n d_MO_readGroup_199 rfl ?_
                  refine ab_getf (fs := mof m_thrown m_taped m_length m_out m_wide m_gathered m_sets m_ranges m_nodes m_at m_flags 10 m_at m_numbered m_depth m_value m_isNot m_least0 m_most0 m_slot m_work m_got m_rowMany m_charAt m_charWide m_trail m_isMatch m_matchGroups m_allFrom m_allBefore m_founds m_pieces m_writtenMany m_templateWide m_tooMuch) f_MO_273 d_MO_readGroup_200 h80.2.2 rfl ?_
                  refine zz_if_le (tgt := 207) d_MO_readGroup_203 (by decide) (by decide) (fun c204 => absurd c204 (by decide)) (fun c204 => ?_)
                  refine ab_vret rfl d_MO_readGroup_206 ?_
                  rw [hQ]; exact (Or.inr ⟨_, _, _, _, _, _, _, _, _, _, _, _, _, _, _, _, _, _, _, _, _, _, ((a1_, b1_, c1_, d1_, e1_) :: t1_), rp, ls, SV, ((ao1_, ro1_) :: ts1_), ro, vv, rfl, hfr, hlen, hsl, h80, h87, h88, h93, h91, h92, h110, h111, ptrI_0, (by omega), (by first | exact jmk | exact rgs_w jmk (by omega)), (by first | exact jrl | exact rgs_w jrl (by omega)), (by first | exact jrh | exact rgs_w jrh (by omega)), (by first | exact jns | exact rgs_w jns (by omega)), (by first | exact jnm | exact rgs_w jnm (by omega)), (by exact sf_o (by omega) (of_f (by omega) (by omega) (Or.inl (flgS_bad hq18 hkq7 (by omega) hq19 (by omega)))))⟩)
                · cases hv
                  rw [hGe]
                  change ab_W _ _ _ G11 173 [some (vR 80), some (vz m_at), some (vz nw212), some (vz k213), some (vz (-1))] [] _
                  exfalso; omega
        · refine ab_aload_n d_MO_readGroup_43 rfl ?_
          refine ab_iload_n d_MO_readGroup_44 rfl ?_
          refine ab_callV (d' := d - 1) (as := [vz m_at]) (st := []) (r := _) (z_MO_readName (o := o) (m_thrown := m_thrown) (m_taped := m_taped) (m_length := m_length) (m_out := m_out) (m_wide := m_wide) (m_gathered := m_gathered) (m_sets := m_sets) (m_ranges := m_ranges) (m_nodes := m_nodes) (m_at := m_at) (m_flags := m_flags) (m_fault := m_fault) (m_place := m_place) (m_numbered := m_numbered) (m_depth := m_depth) (m_value := m_value) (m_isNot := m_isNot) (m_least0 := m_least0) (m_most0 := m_most0) (m_slot := m_slot) (m_work := m_work) (m_got := m_got) (m_rowMany := m_rowMany) (m_charAt := m_charAt) (m_charWide := m_charWide) (m_trail := m_trail) (m_isMatch := m_isMatch) (m_matchGroups := m_matchGroups) (m_allFrom := m_allFrom) (m_allBefore := m_allBefore) (m_founds := m_founds) (m_pieces := m_pieces) (m_writtenMany := m_writtenMany) (m_templateWide := m_templateWide) (m_tooMuch := m_tooMuch) (A_tape := A_tape) (LO := LO) (HI := HI) (MK := MK) (RL := RL) (RH := RH) (NS := NS) (NM := NM) (rp := rp) (ls := ls) (SV := SV) (ro := ro) (vv := vv) (a1_ := a1_) (b1_ := b1_) (c1_ := c1_) (d1_ := d1_) (e1_ := e1_) (t1_ := t1_) (ao1_ := ao1_) (ro1_ := ro1_) (ts1_ := ts1_) (wh := m_at) h80 h84 h87 h88 h93 h81 h82 h91 h92 h110 h111 ptrI_0 (by omega) (by omega) jtp jmk jrl jrh jns jnm (by omega) (by omega) (by omega) (by omega) (by omega) jnj (by omega) (by omega) (by omega) (by omega) (by omega)) (fun oc G2 h => by rcases h with ⟨_, _, _, _, _, _, _, _, _, _, _, _, _, _, _, _, _, _, _, _, _, _, _, _, _, _, _, _, _, _, _, h, _⟩ | ⟨_, _, _, _, _, _, _, _, _, _, _, _, _, _, _, _, _, _, _, _, _, _, _, _, _, _, _, _, _, h, _⟩ <;> exact ⟨_, h⟩) (by omega) m_MO_readName ml_MO_386 im_MO_readName se_MO_readName c_MO h80.2.2 (Nat.le_of_ble_eq_true rfl) d_MO_readGroup_45 rfl ?_
          intro v G205 hq
          rcases hq with ⟨a2206, v2207, nt2208, w2209, g2210, s2211, r2212, n2213, fl2214, nu2215, d2216, le2217, mo2218, f2219, p2220, LO2221, HI2222, MK2223, RL2224, RH2225, NS2226, NM2227, fr2228, rp2229, ls2230, SV2231, FS2232, ro2233, vv2234, na2235, nl2236, hv, hfk, hlk, hsk, hN80, hN87, hN88, hN93, hN91, hN92, hN110, hN111, pNtrI_0, hq237, hq238, hq239, hq240, hq241, hq242, hq243, hq244, hq245, hq246⟩ | ⟨a2247, v2248, nt2249, w2250, g2251, s2252, r2253, n2254, fl2255, nu2256, d2257, le2258, mo2259, f2260, p2261, LO2262, HI2263, MK2264, RL2265, RH2266, NS2267, NM2268, fr2269, rp2270, ls2271, SV2272, FS2273, ro2274, vv2275, hv, hfk, hlk, hsk, hN80, hN87, hN88, hN93, hN91, hN92, hN110, hN111, pNtrI_0, hq276, hq277, hq278, hq279, hq280, hq281, hq282⟩
          · cases hv
            have h84 := hfk.get h84 (by decide)
            have h81 := hfk.get h81 (by decide)
            have h82 := hfk.get h82 (by decide)
            have ptrI_0 := pNtrI_0
            have hfr := hfr.tr hfk (by decide)
            have hlen := hlk.trans hlen
            have hsl := hsk.trans hsl
            have h80 := hN80
            have h87 := hN87
            have h88 := hN88
            have h93 := hN93
            have h91 := hN91
            have h92 := hN92
            have h110 := hN110
            have h111 := hN111
            change ab_W _ _ _ G205 48 [some (vR 80), some (vz m_at), none, none, none] [] _
            refine ab_vret rfl d_MO_readGroup_48 ?_
            rw [hQ]; exact (Or.inl ⟨_, _, _, _, _, _, _, _, _, _, _, _, _, _, _, _, _, _, _, _, _, _, fr2228, rp2229, ls2230, SV2231, FS2232, ro2233, vv2234, na2235, nl2236, rfl, hfr, hlen, hsl, h80, h87, h88, h93, h91, h92, h110, h111, ptrI_0, (by omega), (by first | exact hq238 | exact rgs_w hq238 (by omega)), (by first | exact hq239 | exact rgs_w hq239 (by omega)), (by first | exact hq240 | exact rgs_w hq240 (by omega)), (by first | exact hq241 | exact rgs_w hq241 (by omega)), (by first | exact hq242 | exact rgs_w hq242 (by omega)), (by omega), (by exact hq244), (by exact hq245), (by exact hq246)⟩)
          · cases hv
            have h84 := hfk.get h84 (by decide)
            have h81 := hfk.get h81 (by decide)
            have h82 := hfk.get h82 (by decide)
            have ptrI_0 := pNtrI_0
            have hfr := hfr.tr hfk (by decide)
            have hlen := hlk.trans hlen
            have hsl := hsk.trans hsl
            have h80 := hN80
            have h87 := hN87
            have h88 := hN88
            have h93 := hN93
            have h91 := hN91
            have h92 := hN92
            have h110 := hN110
            have h111 := hN111
            change ab_W _ _ _ G205 48 [some (vR 80), some (vz m_at), none, none, none] [] _
            refine ab_vret rfl d_MO_readGroup_48 ?_
            rw [hQ]; exact (Or.inr ⟨_, _, _, _, _, _, _, _, _, _, _, _, _, _, _, _, _, _, _, _, _, _, fr2269, rp2270, ls2271, SV2272, FS2273, ro2274, vv2275, rfl, hfr, hlen, hsl, h80, h87, h88, h93, h91, h92, h110, h111, ptrI_0, (by omega), (by first | exact hq277 | exact rgs_w hq277 (by omega)), (by first | exact hq278 | exact rgs_w hq278 (by omega)), (by first | exact hq279 | exact rgs_w hq279 (by omega)), (by first | exact hq280 | exact rgs_w hq280 (by omega)), (by first | exact hq281 | exact rgs_w hq281 (by omega)), (by exact hq282)⟩)
      · cases hv
        rw [hGe]
        change ab_W _ _ _ G 38 [some (vR 80), some (vz m_at), none, none, none] [vz (-1)] _
        refine zz_bipush d_MO_readGroup_38 (by decide) ?_
        refine zz_icmp_ne (tgt := 49) d_MO_readGroup_40 (by decide) (by decide) (by decide) (fun c283 => ?_) (fun c283 => absurd c283 (by decide))
        refine ab_aload_n d_MO_readGroup_49 rfl ?_
        refine ab_getf (fs := mof m_thrown m_taped m_length m_out m_wide m_gathered m_sets m_ranges m_nodes m_at m_flags m_fault m_place m_numbered m_depth m_value m_isNot m_least0 m_most0 m_slot m_work m_got m_rowMany m_charAt m_charWide m_trail m_isMatch m_matchGroups m_allFrom m_allBefore m_founds m_pieces m_writtenMany m_templateWide m_tooMuch) f_MO_276 d_MO_readGroup_50 h80.2.2 rfl ?_
        refine ab_istore_n d_MO_readGroup_53 (Nat.le_of_ble_eq_true rfl) (Nat.le_of_ble_eq_true rfl) rfl ?_
        change ab_W _ _ _ G 54 [some (vR 80), some (vz m_at), some (vz m_flags), none, none] [] _
        refine zz_iconst d_MO_readGroup_54 ?_
        refine ab_istore_n d_MO_readGroup_55 (Nat.le_of_ble_eq_true rfl) (Nat.le_of_ble_eq_true rfl) rfl ?_
        change ab_W _ _ _ G 56 [some (vR 80), some (vz m_at), some (vz m_flags), some (vz 2), none] [] _
        refine y_MO_readGroup_56 (m_thrown := m_thrown) (m_taped := m_taped) (m_length := m_length) (m_out := m_out) (m_wide := m_wide) (m_gathered := m_gathered) (m_sets := m_sets) (m_ranges := m_ranges) (m_nodes := m_nodes) (m_at := m_at) (m_flags := m_flags) (m_fault := m_fault) (m_place := m_place) (m_numbered := m_numbered) (m_depth := m_depth) (m_value := m_value) (m_isNot := m_isNot) (m_least0 := m_least0) (m_most0 := m_most0) (m_slot := m_slot) (m_work := m_work) (m_got := m_got) (m_rowMany := m_rowMany) (m_charAt := m_charAt) (m_charWide := m_charWide) (m_trail := m_trail) (m_isMatch := m_isMatch) (m_matchGroups := m_matchGroups) (m_allFrom := m_allFrom) (m_allBefore := m_allBefore) (m_founds := m_founds) (m_pieces := m_pieces) (m_writtenMany := m_writtenMany) (m_templateWide := m_templateWide) (m_tooMuch := m_tooMuch) (A_tape := A_tape) (wh := m_at) (r0 := (flgS A_tape m_taped (Int.toNat (m_taped + 3)) (m_at + 2) 0 0 0)) (G0 := G) (nw := m_flags) (k := 2) (on := 0) (kr := (Int.toNat (m_taped + 3))) (by omega) jtp (by omega) (by omega) (by omega) (Int.toNat (m_taped - m_at - 2) + 1) h80 h84 (by omega) (by rw [flor_0 (by omega)]) rfl fx.rf rfl rfl (by omega) (fun G284 nw2285 k2286 on2287 kr2288 hq289 hq290 hq291 hq292 hfk hlk hsk => ?_)
        · have h80 := hfk.get h80 (by decide)
          have h84 := hfk.get h84 (by decide)
          have h87 := hfk.get h87 (by decide)
          have h88 := hfk.get h88 (by decide)
          have h93 := hfk.get h93 (by decide)
          have h81 := hfk.get h81 (by decide)
          have h82 := hfk.get h82 (by decide)
          have h91 := hfk.get h91 (by decide)
          have h92 := hfk.get h92 (by decide)
          have h110 := hfk.get h110 (by decide)
          have h111 := hfk.get h111 (by decide)
          have ptrI_0 := trI.fr hfk ptrI_0 (by decide) (by decide) (by decide) (by decide) (by decide) (by decide) (by decide) (by decide) (by decide) (by decide) (by decide) (by decide) (by decide) (by decide) (by decide) (by decide) (by decide) (by decide)
          have hfr := hfr.tr hfk (by decide)
          have hlen := hlk.trans hlen
          have hsl := hsk.trans hsl
          change ab_W _ _ _ G284 84 [some (vR 80), some (vz m_at), some (vz nw2285), some (vz k2286), none] [] _
          obtain ⟨kq8, hkq8⟩ : ∃ z : Nat, kr2288 = z + 1 := ⟨kr2288 - 1, by omega⟩
          refine ab_aload_n d_MO_readGroup_84 rfl ?_
          refine ab_iload_n d_MO_readGroup_85 rfl ?_
          refine ab_callV (d' := d - 1) (as := [vz k2286]) (st := []) (r := _) (z_MO_here (o := o) (m_thrown := m_thrown) (m_taped := m_taped) (m_length := m_length) (m_out := m_out) (m_wide := m_wide) (m_gathered := m_gathered) (m_sets := m_sets) (m_ranges := m_ranges) (m_nodes := m_nodes) (m_at := m_at) (m_flags := m_flags) (m_fault := m_fault) (m_place := m_place) (m_numbered := m_numbered) (m_depth := m_depth) (m_value := m_value) (m_isNot := m_isNot) (m_least0 := m_least0) (m_most0 := m_most0) (m_slot := m_slot) (m_work := m_work) (m_got := m_got) (m_rowMany := m_rowMany) (m_charAt := m_charAt) (m_charWide := m_charWide) (m_trail := m_trail) (m_isMatch := m_isMatch) (m_matchGroups := m_matchGroups) (m_allFrom := m_allFrom) (m_allBefore := m_allBefore) (m_founds := m_founds) (m_pieces := m_pieces) (m_writtenMany := m_writtenMany) (m_templateWide := m_templateWide) (m_tooMuch := m_tooMuch) (A_tape := A_tape) (k := k2286) (qh := (m_at + k2286)) h80 h84 (by omega) (by omega) jtp (by omega) (by omega)) (fun oc G2 h => by rcases h with ⟨h, _⟩ | ⟨h, _⟩ <;> exact ⟨_, h⟩) (by omega) m_MO_here ml_MO_297 im_MO_here se_MO_here c_MO h80.2.2 (Nat.le_of_ble_eq_true rfl) d_MO_readGroup_86 rfl ?_
          intro v G293 hq
          rcases hq with ⟨hv, hGe, hq294⟩ | ⟨hv, hGe, hq295, hq296⟩
          · cases hv
            rw [hGe]
            change ab_W _ _ _ G284 89 [some (vR 80), some (vz m_at), some (vz nw2285), some (vz k2286), none] [vz (tpk A_tape m_taped (m_at + k2286))] _
            exfalso; omega
          · cases hv
            rw [hGe]
            change ab_W _ _ _ G284 89 [some (vR 80), some (vz m_at), some (vz nw2285), some (vz k2286), none] [vz (-1)] _
            refine zz_bipush d_MO_readGroup_89 (by decide) ?_
            refine zz_icmp_ne (tgt := 145) d_MO_readGroup_91 (by decide) (by decide) (by decide) (fun c297 => ?_) (fun c297 => absurd c297 (by decide))
            obtain ⟨kq7, hkq7⟩ : ∃ z : Nat, kr2288 = z + 1 := ⟨kr2288 - 1, by omega⟩
            refine ab_aload_n d_MO_readGroup_145 rfl ?_
            refine ab_iload_n d_MO_readGroup_146 rfl ?_
            refine ab_callV (d' := d - 1) (as := [vz k2286]) (st := []) (r := _) (z_MO_here (o := o) (m_thrown := m_thrown) (m_taped := m_taped) (m_length := m_length) (m_out := m_out) (m_wide := m_wide) (m_gathered := m_gathered) (m_sets := m_sets) (m_ranges := m_ranges) (m_nodes := m_nodes) (m_at := m_at) (m_flags := m_flags) (m_fault := m_fault) (m_place := m_place) (m_numbered := m_numbered) (m_depth := m_depth) (m_value := m_value) (m_isNot := m_isNot) (m_least0 := m_least0) (m_most0 := m_most0) (m_slot := m_slot) (m_work := m_work) (m_got := m_got) (m_rowMany := m_rowMany) (m_charAt := m_charAt) (m_charWide := m_charWide) (m_trail := m_trail) (m_isMatch := m_isMatch) (m_matchGroups := m_matchGroups) (m_allFrom := m_allFrom) (m_allBefore := m_allBefore) (m_founds := m_founds) (m_pieces := m_pieces) (m_writtenMany := m_writtenMany) (m_templateWide := m_templateWide) (m_tooMuch := m_tooMuch) (A_tape := A_tape) (k := k2286) (qh := (m_at + k2286)) h80 h84 (by omega) (by omega) jtp (by omega) (by omega)) (fun oc G2 h => by rcases h with ⟨h, _⟩ | ⟨h, _⟩ <;> exact ⟨_, h⟩) (by omega) m_MO_here ml_MO_297 im_MO_here se_MO_here c_MO h80.2.2 (Nat.le_of_ble_eq_true rfl) d_MO_readGroup_147 rfl ?_
            intro v G298 hq
            rcases hq with ⟨hv, hGe, hq299⟩ | ⟨hv, hGe, hq300, hq301⟩
            · cases hv
              rw [hGe]
              change ab_W _ _ _ G284 150 [some (vR 80), some (vz m_at), some (vz nw2285), some (vz k2286), none] [vz (tpk A_tape m_taped (m_at + k2286))] _
              exfalso; omega
            · cases hv
              rw [hGe]
              change ab_W _ _ _ G284 150 [some (vR 80), some (vz m_at), some (vz nw2285), some (vz k2286), none] [vz (-1)] _
              refine ab_istore d_MO_readGroup_150 (Nat.le_of_ble_eq_true rfl) (Nat.le_of_ble_eq_true rfl) rfl ?_
              change ab_W _ _ _ G284 152 [some (vR 80), some (vz m_at), some (vz nw2285), some (vz k2286), some (vz (-1))] [] _
              refine ab_iload d_MO_readGroup_152 rfl ?_
              refine zz_bipush d_MO_readGroup_154 (by decide) ?_
              refine zz_icmp_eq (tgt := 176) d_MO_readGroup_156 (by decide) (by decide) (by decide) (fun c302 => absurd c302 (by decide)) (fun c302 => ?_)
              refine ab_iload d_MO_readGroup_159 rfl ?_
              refine zz_bipush d_MO_readGroup_161 (by decide) ?_
              refine zz_icmp_eq (tgt := 176) d_MO_readGroup_163 (by decide) (by decide) (by decide) (fun c303 => absurd c303 (by decide)) (fun c303 => ?_)
              refine ab_aload_n d_MO_readGroup_166 rfl ?_
              refine zz_bipush d_MO_readGroup_167 (by decide) ?_
              refine ab_iload_n d_MO_readGroup_169 rfl ?_
              refine ab_callV (d' := d - 1) (as := [vz 10, vz m_at]) (st := []) (r := _) (z_MO_wrong (o := o) (m_thrown := m_thrown) (m_taped := m_taped) (m_length := m_length) (m_out := m_out) (m_wide := m_wide) (m_gathered := m_gathered) (m_sets := m_sets) (m_ranges := m_ranges) (m_nodes := m_nodes) (m_at := m_at) (m_flags := m_flags) (m_fault := m_fault) (m_place := m_place) (m_numbered := m_numbered) (m_depth := m_depth) (m_value := m_value) (m_isNot := m_isNot) (m_least0 := m_least0) (m_most0 := m_most0) (m_slot := m_slot) (m_work := m_work) (m_got := m_got) (m_rowMany := m_rowMany) (m_charAt := m_charAt) (m_charWide := m_charWide) (m_trail := m_trail) (m_isMatch := m_isMatch) (m_matchGroups := m_matchGroups) (m_allFrom := m_allFrom) (m_allBefore := m_allBefore) (m_founds := m_founds) (m_pieces := m_pieces) (m_writtenMany := m_writtenMany) (m_templateWide := m_templateWide) (m_tooMuch := m_tooMuch) (x := 10) (y := m_at) h80 (by omega) (by omega)) (fun oc G2 h => by rcases h with ⟨h, _⟩ | ⟨h, _⟩ <;> exact ⟨_, h⟩) (by omega) m_MO_wrong ml_MO_304 im_MO_wrong se_MO_wrong c_MO h80.2.2 (Nat.le_of_ble_eq_true rfl) d_MO_readGroup_170 rfl ?_
              intro v G304 hq
              rcases hq with ⟨hv, hfk, hlk, hsk, hN80, hq305⟩ | ⟨hv, hGe, hq306⟩
              · cases hv
                have h84 := hfk.get h84 (by decide)
                have h87 := hfk.get h87 (by decide)
                have h88 := hfk.get h88 (by decide)
                have h93 := hfk.get h93 (by decide)
                have h81 := hfk.get h81 (by decide)
                have h82 := hfk.get h82 (by decide)
                have h91 := hfk.get h91 (by decide)
                have h92 := hfk.get h92 (by decide)
                have h110 := hfk.get h110 (by decide)
                have h111 := hfk.get h111 (by decide)
                have ptrI_0 := trI.fr hfk ptrI_0 (by decide) (by decide) (by decide) (by decide) (by decide) (by decide) (by decide) (by decide) (by decide) (by decide) (by decide) (by decide) (by decide) (by decide) (by decide) (by decide) (by decide) (by decide)
                have hfr := hfr.tr hfk (by decide)
                have hlen := hlk.trans hlen
                have hsl := hsk.trans hsl
                have h80 := hN80
                change ab_W _ _ _ G304 173 [some (vR 80), some (vz m_at), some (vz nw2285), some (vz k2286), some (vz (-1))] [] _
                refine ab_goto (tgt := 199) d_MO_readGroup_173 (by decide) ?_
                refine ab_aload_n d_MO_readGroup_199 rfl ?_
                refine ab_getf (fs := mof m_thrown m_taped m_length m_out m_wide m_gathered m_sets m_ranges m_nodes m_at m_flags 10 m_at m_numbered m_depth m_value m_isNot m_least0 m_most0 m_slot m_work m_got m_rowMany m_charAt m_charWide m_trail m_isMatch m_matchGroups m_allFrom m_allBefore m_founds m_pieces m_writtenMany m_templateWide m_tooMuch) f_MO_273 d_MO_readGroup_200 h80.2.2 rfl ?_
                refine zz_if_le (tgt := 207) d_MO_readGroup_203 (by decide) (by decide) (fun c307 => absurd c307 (by decide)) (fun c307 => ?_)
                refine ab_vret rfl d_MO_readGroup_206 ?_
                rw [hQ]; exact (Or.inr ⟨_, _, _, _, _, _, _, _, _, _, _, _, _, _, _, _, _, _, _, _, _, _, ((a1_, b1_, c1_, d1_, e1_) :: t1_), rp, ls, SV, ((ao1_, ro1_) :: ts1_), ro, vv, rfl, hfr, hlen, hsl, h80, h87, h88, h93, h91, h92, h110, h111, ptrI_0, (by omega), (by first | exact jmk | exact rgs_w jmk (by omega)), (by first | exact jrl | exact rgs_w jrl (by omega)), (by first | exact jrh | exact rgs_w jrh (by omega)), (by first | exact jns | exact rgs_w jns (by omega)), (by first | exact jnm | exact rgs_w jnm (by omega)), (by exact sf_o (by omega) (of_f (by omega) (by omega) (Or.inl (flgS_bad hq291 hkq7 (by omega) hq292 (by omega)))))⟩)
              · cases hv
                rw [hGe]
                change ab_W _ _ _ G284 173 [some (vR 80), some (vz m_at), some (vz nw2285), some (vz k2286), some (vz (-1))] [] _
                exfalso; omega
    · refine ab_aload_n d_MO_readGroup_15 rfl ?_
      refine ab_dup d_MO_readGroup_16 rfl ?_
      refine ab_getf (fs := mof m_thrown m_taped m_length m_out m_wide m_gathered m_sets m_ranges m_nodes m_at m_flags m_fault m_place m_numbered m_depth m_value m_isNot m_least0 m_most0 m_slot m_work m_got m_rowMany m_charAt m_charWide m_trail m_isMatch m_matchGroups m_allFrom m_allBefore m_founds m_pieces m_writtenMany m_templateWide m_tooMuch) f_MO_279 d_MO_readGroup_17 h80.2.2 rfl ?_
      refine zz_iconst d_MO_readGroup_20 ?_
      refine zz_iadd d_MO_readGroup_21 ?_
      refine ab_putf (fs := mof m_thrown m_taped m_length m_out m_wide m_gathered m_sets m_ranges m_nodes m_at m_flags m_fault m_place m_numbered m_depth m_value m_isNot m_least0 m_most0 m_slot m_work m_got m_rowMany m_charAt m_charWide m_trail m_isMatch m_matchGroups m_allFrom m_allBefore m_founds m_pieces m_writtenMany m_templateWide m_tooMuch) f_MO_279 (Or.inl rfl) d_MO_readGroup_22 h80.2.2 (Nat.le_of_ble_eq_true rfl) (fun _ => ⟨rfl, rfl⟩) (h80.2.1 (by decide)) ?_
      obtain ⟨G308, eG308⟩ : ∃ z : ab_G, z = List.set G 80 (ab_ob 12 (mof m_thrown m_taped m_length m_out m_wide m_gathered m_sets m_ranges m_nodes (m_at + 1) m_flags m_fault m_place m_numbered m_depth m_value m_isNot m_least0 m_most0 m_slot m_work m_got m_rowMany m_charAt m_charWide m_trail m_isMatch m_matchGroups m_allFrom m_allBefore m_founds m_pieces m_writtenMany m_templateWide m_tooMuch)) := ⟨_, rfl⟩
      have h84 := h84.keep h80 eG308 (by decide)
      have h87 := h87.keep h80 eG308 (by decide)
      have h88 := h88.keep h80 eG308 (by decide)
      have h93 := h93.keep h80 eG308 (by decide)
      have h81 := h81.keep h80 eG308 (by decide)
      have h82 := h82.keep h80 eG308 (by decide)
      have h91 := h91.keep h80 eG308 (by decide)
      have h92 := h92.keep h80 eG308 (by decide)
      have h110 := h110.keep h80 eG308 (by decide)
      have h111 := h111.keep h80 eG308 (by decide)
      have hst := (fx.rf (o := o) (S := [280]) (G := G)).wr h80 eG308 (List.mem_singleton.mpr rfl)
      have ptrI_0 := trI.fr hst ptrI_0 (by decide) (by decide) (by decide) (by decide) (by decide) (by decide) (by decide) (by decide) (by decide) (by decide) (by decide) (by decide) (by decide) (by decide) (by decide) (by decide) (by decide) (by decide)
      have hlen := (z_len eG308).trans hlen
      have hsl := (z_sl h80 eG308 rfl).trans hsl
      have hfr := hfr.wr h80 eG308 (by decide)
      have h80 := h80.kept eG308
      change ab_W _ _ _ (List.set G 80 (ab_ob 12 (mof m_thrown m_taped m_length m_out m_wide m_gathered m_sets m_ranges m_nodes (m_at + 1) m_flags m_fault m_place m_numbered m_depth m_value m_isNot m_least0 m_most0 m_slot m_work m_got m_rowMany m_charAt m_charWide m_trail m_isMatch m_matchGroups m_allFrom m_allBefore m_founds m_pieces m_writtenMany m_templateWide m_tooMuch))) 25 [some (vR 80), some (vz m_at), none, none, none] [] _
      rw [← eG308]
      refine ab_aload_n d_MO_readGroup_25 rfl ?_
      refine ab_iload_n d_MO_readGroup_26 rfl ?_
      refine zz_iconst d_MO_readGroup_27 ?_
      refine zz_iconst d_MO_readGroup_28 ?_
      refine ab_callV (d' := d - 1) (as := [vz m_at, vz (-1), vz 0]) (st := []) (r := _) (z_MO_openNumbered (o := o) (m_thrown := m_thrown) (m_taped := m_taped) (m_length := m_length) (m_out := m_out) (m_wide := m_wide) (m_gathered := m_gathered) (m_sets := m_sets) (m_ranges := m_ranges) (m_nodes := m_nodes) (m_at := (m_at + 1)) (m_flags := m_flags) (m_fault := m_fault) (m_place := m_place) (m_numbered := m_numbered) (m_depth := m_depth) (m_value := m_value) (m_isNot := m_isNot) (m_least0 := m_least0) (m_most0 := m_most0) (m_slot := m_slot) (m_work := m_work) (m_got := m_got) (m_rowMany := m_rowMany) (m_charAt := m_charAt) (m_charWide := m_charWide) (m_trail := m_trail) (m_isMatch := m_isMatch) (m_matchGroups := m_matchGroups) (m_allFrom := m_allFrom) (m_allBefore := m_allBefore) (m_founds := m_founds) (m_pieces := m_pieces) (m_writtenMany := m_writtenMany) (m_templateWide := m_templateWide) (m_tooMuch := m_tooMuch) (A_tape := A_tape) (LO := LO) (HI := HI) (MK := MK) (RL := RL) (RH := RH) (NS := NS) (NM := NM) (rp := rp) (ls := ls) (SV := SV) (ro := ro) (vv := vv) (a1_ := a1_) (b1_ := b1_) (c1_ := c1_) (d1_ := d1_) (e1_ := e1_) (t1_ := t1_) (ao1_ := ao1_) (ro1_ := ro1_) (ts1_ := ts1_) (wh := m_at) (fo := (-1)) (n := 0) (ps9 := 0) h80 h84 h87 h88 h93 h81 h82 h91 h92 h110 h111 ptrI_0 (by omega) (by omega) jtp jmk jrl jrh jns jnm (by omega) (by omega) (by omega) (by omega) (by omega) (by omega) jnj (Or.inl rfl) (by omega)) (fun oc G2 h => by rcases h with ⟨_, h, _⟩ | ⟨_, _, h, _⟩ <;> exact ⟨_, h⟩) (by omega) m_MO_openNumbered ml_MO_382 im_MO_openNumbered se_MO_openNumbered c_MO h80.2.2 (Nat.le_of_ble_eq_true rfl) d_MO_readGroup_29 rfl ?_
      intro v G309 hq
      rcases hq with ⟨NS2310, hv, hfk, hlk, hsk, hN80, hN110, hN111, pNtrI_0, hq311, hq312, hq313⟩ | ⟨f2314, p2315, hv, hfk, hlk, hsk, hN80, hN110, hN111, pNtrI_0, hq316, hq317, hq318⟩
      · cases hv
        have h84 := hfk.get h84 (by decide)
        have h87 := hfk.get h87 (by decide)
        have h88 := hfk.get h88 (by decide)
        have h93 := hfk.get h93 (by decide)
        have h81 := hfk.get h81 (by decide)
        have h82 := hfk.get h82 (by decide)
        have h91 := hfk.get h91 (by decide)
        have h92 := hfk.get h92 (by decide)
        have ptrI_0 := pNtrI_0
        have hfr := hfr.tr hfk (by decide)
        have hlen := hlk.trans hlen
        have hsl := hsk.trans hsl
        have h80 := hN80
        have h110 := hN110
        have h111 := hN111
        change ab_W _ _ _ G309 32 [some (vR 80), some (vz m_at), none, none, none] [] _
        refine ab_vret rfl d_MO_readGroup_32 ?_
        rw [hQ]; exact (Or.inl ⟨_, _, _, _, _, _, _, _, _, _, _, _, _, _, _, _, _, _, _, _, _, _, ((m_at, m_flags, (m_numbered + 1), 0, 0) :: ((a1_, b1_, c1_, d1_, e1_) :: t1_)), 0, 0, SV, ((none, mnI) :: ((ao1_, ro1_) :: ts1_)), mnI, mnI, (zu na (m_numbered + 1) 0), (zu nl (m_numbered + 1) 0), rfl, hfr, hlen, hsl, h80, h87, h88, h93, h91, h92, h110, h111, ptrI_0, (by omega), (by first | exact jmk | exact rgs_w jmk (by omega)), (by first | exact jrl | exact rgs_w jrl (by omega)), (by first | exact jrh | exact rgs_w jrh (by omega)), (by first | exact hq312 | exact rgs_w hq312 (by omega)), (by first | exact (rgs_zu jnm (by omega)) | exact rgs_w (rgs_zu jnm (by omega)) (by omega)), (by omega), (by exact hq313), (by exact sb_open (by omega) (by omega) (by have t_ := hln_; simp only [List.length_cons] at t_ ⊢; omega)), (by exact ss_grp (by omega))⟩)
      · cases hv
        have h84 := hfk.get h84 (by decide)
        have h87 := hfk.get h87 (by decide)
        have h88 := hfk.get h88 (by decide)
        have h93 := hfk.get h93 (by decide)
        have h81 := hfk.get h81 (by decide)
        have h82 := hfk.get h82 (by decide)
        have h91 := hfk.get h91 (by decide)
        have h92 := hfk.get h92 (by decide)
        have ptrI_0 := pNtrI_0
        have hfr := hfr.tr hfk (by decide)
        have hlen := hlk.trans hlen
        have hsl := hsk.trans hsl
        have h80 := hN80
        have h110 := hN110
        have h111 := hN111
        change ab_W _ _ _ G309 32 [some (vR 80), some (vz m_at), none, none, none] [] _
        refine ab_vret rfl d_MO_readGroup_32 ?_
        rw [hQ]; exact (Or.inr ⟨_, _, _, _, _, _, _, _, _, _, _, _, _, _, _, _, _, _, _, _, _, _, ((a1_, b1_, c1_, d1_, e1_) :: t1_), rp, ls, SV, ((ao1_, ro1_) :: ts1_), ro, vv, rfl, hfr, hlen, hsl, h80, h87, h88, h93, h91, h92, h110, h111, ptrI_0, (by omega), (by first | exact jmk | exact rgs_w jmk (by omega)), (by first | exact jrl | exact rgs_w jrl (by omega)), (by first | exact jrh | exact rgs_w jrh (by omega)), (by first | exact jns | exact rgs_w jns (by omega)), (by first | exact jnm | exact rgs_w jnm (by omega)), (by rw [show p2315 = m_at by omega]; exact sf_o (by omega) (of_d (by omega) (by have t_ := hln_; simp only [List.length_cons] at t_ ⊢; omega)))⟩)
  · cases hv
    rw [hGe]
    change ab_W _ _ _ G 10 [some (vR 80), some (vz m_at), none, none, none] [vz (-1)] _
    refine zz_bipush d_MO_readGroup_10 (by decide) ?_
    refine zz_icmp_eq (tgt := 33) d_MO_readGroup_12 (by decide) (by decide) (by decide) (fun c319 => absurd c319 (by decide)) (fun c319 => ?_)
    refine ab_aload_n d_MO_readGroup_15 rfl ?_
    refine ab_dup d_MO_readGroup_16 rfl ?_
    refine ab_getf (fs := mof m_thrown m_taped m_length m_out m_wide m_gathered m_sets m_ranges m_nodes m_at m_flags m_fault m_place m_numbered m_depth m_value m_isNot m_least0 m_most0 m_slot m_work m_got m_rowMany m_charAt m_charWide m_trail m_isMatch m_matchGroups m_allFrom m_allBefore m_founds m_pieces m_writtenMany m_templateWide m_tooMuch) f_MO_279 d_MO_readGroup_17 h80.2.2 rfl ?_
    refine zz_iconst d_MO_readGroup_20 ?_
    refine zz_iadd d_MO_readGroup_21 ?_
    refine ab_putf (fs := mof m_thrown m_taped m_length m_out m_wide m_gathered m_sets m_ranges m_nodes m_at m_flags m_fault m_place m_numbered m_depth m_value m_isNot m_least0 m_most0 m_slot m_work m_got m_rowMany m_charAt m_charWide m_trail m_isMatch m_matchGroups m_allFrom m_allBefore m_founds m_pieces m_writtenMany m_templateWide m_tooMuch) f_MO_279 (Or.inl rfl) d_MO_readGroup_22 h80.2.2 (Nat.le_of_ble_eq_true rfl) (fun _ => ⟨rfl, rfl⟩) (h80.2.1 (by decide)) ?_
    obtain ⟨G320, eG320⟩ : ∃ z : ab_G, z = List.set G 80 (ab_ob 12 (mof m_thrown m_taped m_length m_out m_wide m_gathered m_sets m_ranges m_nodes (m_at + 1) m_flags m_fault m_place m_numbered m_depth m_value m_isNot m_least0 m_most0 m_slot m_work m_got m_rowMany m_charAt m_charWide m_trail m_isMatch m_matchGroups m_allFrom m_allBefore m_founds m_pieces m_writtenMany m_templateWide m_tooMuch)) := ⟨_, rfl⟩
    have h84 := h84.keep h80 eG320 (by decide)
    have h87 := h87.keep h80 eG320 (by decide)
    have h88 := h88.keep h80 eG320 (by decide)
    have h93 := h93.keep h80 eG320 (by decide)
    have h81 := h81.keep h80 eG320 (by decide)
    have h82 := h82.keep h80 eG320 (by decide)
    have h91 := h91.keep h80 eG320 (by decide)
    have h92 := h92.keep h80 eG320 (by decide)
    have h110 := h110.keep h80 eG320 (by decide)
    have h111 := h111.keep h80 eG320 (by decide)
    have hst := (fx.rf (o := o) (S := [280]) (G := G)).wr h80 eG320 (List.mem_singleton.mpr rfl)
    have ptrI_0 := trI.fr hst ptrI_0 (by decide) (by decide) (by decide) (by decide) (by decide) (by decide) (by decide) (by decide) (by decide) (by decide) (by decide) (by decide) (by decide) (by decide) (by decide) (by decide) (by decide) (by decide)
    have hlen := (z_len eG320).trans hlen
    have hsl := (z_sl h80 eG320 rfl).trans hsl
    have hfr := hfr.wr h80 eG320 (by decide)
    have h80 := h80.kept eG320
    change ab_W _ _ _ (List.set G 80 (ab_ob 12 (mof m_thrown m_taped m_length m_out m_wide m_gathered m_sets m_ranges m_nodes (m_at + 1) m_flags m_fault m_place m_numbered m_depth m_value m_isNot m_least0 m_most0 m_slot m_work m_got m_rowMany m_charAt m_charWide m_trail m_isMatch m_matchGroups m_allFrom m_allBefore m_founds m_pieces m_writtenMany m_templateWide m_tooMuch))) 25 [some (vR 80), some (vz m_at), none, none, none] [] _
    rw [← eG320]
    refine ab_aload_n d_MO_readGroup_25 rfl ?_
    refine ab_iload_n d_MO_readGroup_26 rfl ?_
    refine zz_iconst d_MO_readGroup_27 ?_
    refine zz_iconst d_MO_readGroup_28 ?_
    refine ab_callV (d' := d - 1) (as := [vz m_at, vz (-1), vz 0]) (st := []) (r := _) (z_MO_openNumbered (o := o) (m_thrown := m_thrown) (m_taped := m_taped) (m_length := m_length) (m_out := m_out) (m_wide := m_wide) (m_gathered := m_gathered) (m_sets := m_sets) (m_ranges := m_ranges) (m_nodes := m_nodes) (m_at := (m_at + 1)) (m_flags := m_flags) (m_fault := m_fault) (m_place := m_place) (m_numbered := m_numbered) (m_depth := m_depth) (m_value := m_value) (m_isNot := m_isNot) (m_least0 := m_least0) (m_most0 := m_most0) (m_slot := m_slot) (m_work := m_work) (m_got := m_got) (m_rowMany := m_rowMany) (m_charAt := m_charAt) (m_charWide := m_charWide) (m_trail := m_trail) (m_isMatch := m_isMatch) (m_matchGroups := m_matchGroups) (m_allFrom := m_allFrom) (m_allBefore := m_allBefore) (m_founds := m_founds) (m_pieces := m_pieces) (m_writtenMany := m_writtenMany) (m_templateWide := m_templateWide) (m_tooMuch := m_tooMuch) (A_tape := A_tape) (LO := LO) (HI := HI) (MK := MK) (RL := RL) (RH := RH) (NS := NS) (NM := NM) (rp := rp) (ls := ls) (SV := SV) (ro := ro) (vv := vv) (a1_ := a1_) (b1_ := b1_) (c1_ := c1_) (d1_ := d1_) (e1_ := e1_) (t1_ := t1_) (ao1_ := ao1_) (ro1_ := ro1_) (ts1_ := ts1_) (wh := m_at) (fo := (-1)) (n := 0) (ps9 := 0) h80 h84 h87 h88 h93 h81 h82 h91 h92 h110 h111 ptrI_0 (by omega) (by omega) jtp jmk jrl jrh jns jnm (by omega) (by omega) (by omega) (by omega) (by omega) (by omega) jnj (Or.inl rfl) (by omega)) (fun oc G2 h => by rcases h with ⟨_, h, _⟩ | ⟨_, _, h, _⟩ <;> exact ⟨_, h⟩) (by omega) m_MO_openNumbered ml_MO_382 im_MO_openNumbered se_MO_openNumbered c_MO h80.2.2 (Nat.le_of_ble_eq_true rfl) d_MO_readGroup_29 rfl ?_
    intro v G321 hq
    rcases hq with ⟨NS2322, hv, hfk, hlk, hsk, hN80, hN110, hN111, pNtrI_0, hq323, hq324, hq325⟩ | ⟨f2326, p2327, hv, hfk, hlk, hsk, hN80, hN110, hN111, pNtrI_0, hq328, hq329, hq330⟩
    · cases hv
      have h84 := hfk.get h84 (by decide)
      have h87 := hfk.get h87 (by decide)
      have h88 := hfk.get h88 (by decide)
      have h93 := hfk.get h93 (by decide)
      have h81 := hfk.get h81 (by decide)
      have h82 := hfk.get h82 (by decide)
      have h91 := hfk.get h91 (by decide)
      have h92 := hfk.get h92 (by decide)
      have ptrI_0 := pNtrI_0
      have hfr := hfr.tr hfk (by decide)
      have hlen := hlk.trans hlen
      have hsl := hsk.trans hsl
      have h80 := hN80
      have h110 := hN110
      have h111 := hN111
      change ab_W _ _ _ G321 32 [some (vR 80), some (vz m_at), none, none, none] [] _
      refine ab_vret rfl d_MO_readGroup_32 ?_
      rw [hQ]; exact (Or.inl ⟨_, _, _, _, _, _, _, _, _, _, _, _, _, _, _, _, _, _, _, _, _, _, ((m_at, m_flags, (m_numbered + 1), 0, 0) :: ((a1_, b1_, c1_, d1_, e1_) :: t1_)), 0, 0, SV, ((none, mnI) :: ((ao1_, ro1_) :: ts1_)), mnI, mnI, (zu na (m_numbered + 1) 0), (zu nl (m_numbered + 1) 0), rfl, hfr, hlen, hsl, h80, h87, h88, h93, h91, h92, h110, h111, ptrI_0, (by omega), (by first | exact jmk | exact rgs_w jmk (by omega)), (by first | exact jrl | exact rgs_w jrl (by omega)), (by first | exact jrh | exact rgs_w jrh (by omega)), (by first | exact hq324 | exact rgs_w hq324 (by omega)), (by first | exact (rgs_zu jnm (by omega)) | exact rgs_w (rgs_zu jnm (by omega)) (by omega)), (by omega), (by exact hq325), (by exact sb_open (by omega) (by omega) (by have t_ := hln_; simp only [List.length_cons] at t_ ⊢; omega)), (by exact ss_grp (by omega))⟩)
    · cases hv
      have h84 := hfk.get h84 (by decide)
      have h87 := hfk.get h87 (by decide)
      have h88 := hfk.get h88 (by decide)
      have h93 := hfk.get h93 (by decide)
      have h81 := hfk.get h81 (by decide)
      have h82 := hfk.get h82 (by decide)
      have h91 := hfk.get h91 (by decide)
      have h92 := hfk.get h92 (by decide)
      have ptrI_0 := pNtrI_0
      have hfr := hfr.tr hfk (by decide)
      have hlen := hlk.trans hlen
      have hsl := hsk.trans hsl
      have h80 := hN80
      have h110 := hN110
      have h111 := hN111
      change ab_W _ _ _ G321 32 [some (vR 80), some (vz m_at), none, none, none] [] _
      refine ab_vret rfl d_MO_readGroup_32 ?_
      rw [hQ]; exact (Or.inr ⟨_, _, _, _, _, _, _, _, _, _, _, _, _, _, _, _, _, _, _, _, _, _, ((a1_, b1_, c1_, d1_, e1_) :: t1_), rp, ls, SV, ((ao1_, ro1_) :: ts1_), ro, vv, rfl, hfr, hlen, hsl, h80, h87, h88, h93, h91, h92, h110, h111, ptrI_0, (by omega), (by first | exact jmk | exact rgs_w jmk (by omega)), (by first | exact jrl | exact rgs_w jrl (by omega)), (by first | exact jrh | exact rgs_w jrh (by omega)), (by first | exact jns | exact rgs_w jns (by omega)), (by first | exact jnm | exact rgs_w jnm (by omega)), (by rw [show p2327 = m_at by omega]; exact sf_o (by omega) (of_d (by omega) (by have t_ := hln_; simp only [List.length_cons] at t_ ⊢; omega)))⟩)
