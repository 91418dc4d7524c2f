set_option maxRecDepth 100000 in
set_option maxHeartbeats 4000000 in
theorem z_MO_readCharacter {X : ab_X} {d : Nat} {o : Nat → Nat} {G : ab_G} {m_thrown : Int} {m_taped : Int} {m_length : Int} {m_out : Int} {m_wide : Int} {m_gathered : Int} {m_sets : Int} {m_ranges : Int} {m_nodes : Int} {m_at : Int} {m_flags : Int} {m_fault : Int} {m_place : Int} {m_numbered : Int} {m_depth : Int} {m_value : Int} {m_isNot : Int} {m_least0 : Int} {m_most0 : Int} {m_slot : Int} {m_work : Int} {m_got : Int} {m_rowMany : Int} {m_charAt : Int} {m_charWide : Int} {m_trail : Int} {m_isMatch : Int} {m_matchGroups : Int} {m_allFrom : Int} {m_allBefore : Int} {m_founds : Int} {m_pieces : Int} {m_writtenMany : Int} {m_templateWide : Int} {m_tooMuch : Int} {A_tape : Int → Int} {LO : Int → Int} {HI : Int → Int} {MK : Int → Int} {RL : Int → Int} {RH : Int → Int} {NS : Int → Int} {NM : Int → Int} {rp : Int} {ls : Int} {SV : Int → Int → Prop} {ro : Sn} {vv : Sn} {a1_ : Int} {b1_ : Int} {c1_ : Int} {d1_ : Int} {e1_ : Int} {t1_ : List Fr} {ao1_ : Option Sn} {ro1_ : Sn} {ts1_ : List Fs} {c : Int} (h80 : cc o G 80 280 (ab_ob 12 (mof m_thrown m_taped m_length m_out m_wide m_gathered m_sets m_ranges m_nodes m_at m_flags m_fault m_place m_numbered m_depth m_value m_isNot m_least0 m_most0 m_slot m_work m_got m_rowMany m_charAt m_charWide m_trail m_isMatch m_matchGroups m_allFrom m_allBefore m_founds m_pieces m_writtenMany m_templateWide m_tooMuch))) (h84 : cc o G 84 284 (za 2000 A_tape)) (h87 : cc o G 87 287 (za 9000 LO)) (h88 : cc o G 88 288 (za 9000 HI)) (h93 : cc o G 93 293 (zb 1200 MK)) (h81 : cc o G 81 281 (za 13 tbA)) (h82 : cc o G 82 282 (za 66 tbT)) (h91 : cc o G 91 291 (za 24000 RL)) (h92 : cc o G 92 292 (za 24000 RH)) (h110 : cc o G 110 310 (za 120 NS)) (h111 : cc o G 111 311 (za 10 NM)) (ptrI_0 : trI o G 0 m_nodes m_sets (m_depth + 1) (-1) 0 0 ((a1_, b1_, c1_, d1_, e1_) :: t1_) rp ls 0 SV ((ao1_, ro1_) :: ts1_) ro vv mnI RL RH m_ranges 0 0) (n18 : ab_n0 = 18) (cta : 0 ≤ m_taped ∧ m_taped ≤ 2000) (jtp : rgs A_tape 2000 0 255) (jmk : rgs MK 1200 0 1) (jrl : rgs RL 24000 0 1114111) (jrh : rgs RH 24000 0 1114111) (jns : rgs NS 120 0 255) (jnm : rgs NM 10 0 12) (cfl : 0 ≤ m_flags ∧ m_flags ≤ 15) (cf : m_fault = 0) (cat : 0 ≤ m_at ∧ m_at ≤ m_taped) (cpo : 0 ≤ m_nodes ∧ m_nodes + 2 * m_depth + 2 ≤ 2 * m_at ∧ 0 ≤ m_sets ∧ m_sets + 1 ≤ m_at ∧ 0 ≤ m_ranges ∧ m_ranges + 12 ≤ 12 * m_at ∧ 0 ≤ m_depth ∧ m_depth ≤ 30 ∧ 0 ≤ m_numbered ∧ m_numbered ≤ 9 ∧ -2147483648 ≤ m_flags ∧ m_flags ≤ 2147483647 ∧ -2147483648 ≤ m_value ∧ m_value ≤ 2147483647) (cch_ : 0 ≤ c ∧ c ≤ 1114111) (hd : 5 ≤ d) : ab_F X d y_MO_readCharacter (.code y_MO_readCharacter b_MO_readCharacter 4 none) [vR 80, vz c] G (fun oc G2 => ∃ a2 : Int, ∃ g2 : Int, ∃ s2 : Int, ∃ r2 : Int, ∃ n2 : Int, ∃ v2 : Int, ∃ nt2 : Int, ∃ w2 : Int, ∃ f2 : Int, ∃ p2 : Int, ∃ z9 : Int, ∃ LO2 : Int → Int, ∃ HI2 : Int → Int, ∃ MK2 : Int → Int, ∃ RL2 : Int → Int, ∃ RH2 : Int → Int, ∃ SV2 : Int → Int → Prop, ∃ v9 : Sn, oc = .returned none ∧ fx o o [280, 287, 288, 293, 291, 292, 310, 311, 294, 295, 296, 297, 298, 299, 300, 301, 290, 289, 305, 306, 307, 308, 309, 302, 303, 304] G G2 ∧ G2.length = G.length ∧ ab_slots G2 = ab_slots G ∧ cc o G2 80 280 (ab_ob 12 (mof m_thrown m_taped m_length m_out w2 g2 s2 r2 n2 a2 m_flags f2 p2 m_numbered m_depth v2 nt2 m_least0 m_most0 m_slot m_work m_got m_rowMany m_charAt m_charWide m_trail m_isMatch m_matchGroups m_allFrom m_allBefore m_founds m_pieces m_writtenMany m_templateWide m_tooMuch)) ∧ cc o G2 87 287 (za 9000 LO2) ∧ cc o G2 88 288 (za 9000 HI2) ∧ cc o G2 93 293 (zb 1200 MK2) ∧ cc o G2 91 291 (za 24000 RL2) ∧ cc o G2 92 292 (za 24000 RH2) ∧ cc o G2 110 310 (za 120 NS) ∧ cc o G2 111 311 (za 10 NM) ∧ trI o G2 0 n2 s2 (m_depth + 1) (-1) 0 0 ((a1_, b1_, c1_, d1_, (e1_ + z9)) :: t1_) 1 z9 0 SV2 ((ao1_, (mnC ro1_ v9)) :: ts1_) ro1_ v9 mnI RL2 RH2 r2 0 0 ∧ (f2 = 0 ∧ p2 = m_place ∧ a2 = m_at ∧ 0 ≤ n2 ∧ n2 + 2 * m_depth ≤ 2 * a2 ∧ 0 ≤ s2 ∧ s2 ≤ a2 ∧ 0 ≤ r2 ∧ r2 ≤ 12 * a2 ∧ a2 ≤ m_taped ∧ -2147483648 ≤ v2 ∧ v2 ≤ 2147483647) ∧ (rgs MK2 1200 0 1) ∧ (rgs RL2 24000 0 1114111) ∧ (rgs RH2 24000 0 1114111) ∧ (chz (m_flags % 2) c z9) ∧ (v9 = mnS (chS (m_flags % 2) c))) := by
  refine ab_F_of (by decide +kernel) (Nat.le_of_ble_eq_true rfl) ?_
  obtain ⟨Q, hQ⟩ : ∃ z : Outcome → ab_G → Prop, z = (fun oc G2 => ∃ a2 : Int, ∃ g2 : Int, ∃ s2 : Int, ∃ r2 : Int, ∃ n2 : Int, ∃ v2 : Int, ∃ nt2 : Int, ∃ w2 : Int, ∃ f2 : Int, ∃ p2 : Int, ∃ z9 : Int, ∃ LO2 : Int → Int, ∃ HI2 : Int → Int, ∃ MK2 : Int → Int, ∃ RL2 : Int → Int, ∃ RH2 : Int → Int, ∃ SV2 : Int → Int → Prop, ∃ v9 : Sn, oc = .returned none ∧ fx o o [280, 287, 288, 293, 291, 292, 310, 311, 294, 295, 296, 297, 298, 299, 300, 301, 290, 289, 305, 306, 307, 308, 309, 302, 303, 304] G G2 ∧ G2.length = G.length ∧ ab_slots G2 = ab_slots G ∧ cc o G2 80 280 (ab_ob 12 (mof m_thrown m_taped m_length m_out w2 g2 s2 r2 n2 a2 m_flags f2 p2 m_numbered m_depth v2 nt2 m_least0 m_most0 m_slot m_work m_got m_rowMany m_charAt m_charWide m_trail m_isMatch m_matchGroups m_allFrom m_allBefore m_founds m_pieces m_writtenMany m_templateWide m_tooMuch)) ∧ cc o G2 87 287 (za 9000 LO2) ∧ cc o G2 88 288 (za 9000 HI2) ∧ cc o G2 93 293 (zb 1200 MK2) ∧ cc o G2 91 291 (za 24000 RL2) ∧ cc o G2 92 292 (za 24000 RH2) ∧ cc o G2 110 310 (za 120 NS) ∧ cc o G2 111 311 (za 10 NM) ∧ trI o G2 0 n2 s2 (m_depth + 1) (-1) 0 0 ((a1_, b1_, c1_, d1_, (e1_ + z9)) :: t1_) 1 z9 0 SV2 ((ao1_, (mnC ro1_ v9)) :: ts1_) ro1_ v9 mnI RL2 RH2 r2 0 0 ∧ (f2 = 0 ∧ p2 = m_place ∧ a2 = m_at ∧ 0 ≤ n2 ∧ n2 + 2 * m_depth ≤ 2 * a2 ∧ 0 ≤ s2 ∧ s2 ≤ a2 ∧ 0 ≤ r2 ∧ r2 ≤ 12 * a2 ∧ a2 ≤ m_taped ∧ -2147483648 ≤ v2 ∧ v2 ≤ 2147483647) ∧ (rgs MK2 1200 0 1) ∧ (rgs RL2 24000 0 1114111) ∧ (rgs RH2 24000 0 1114111) ∧ (chz (m_flags % 2) c z9) ∧ (v9 = mnS (chS (m_flags % 2) c))) := ⟨_, rfl⟩
  rw [← hQ]
  change ab_W X (ab_pl y_MO_readCharacter b_MO_readCharacter 4 none) d G 0 [some (vR 80), some (vz c), none, none] [] Q
  have hfr : fx o o [280, 287, 288, 293, 291, 292, 310, 311, 294, 295, 296, 297, 298, 299, 300, 301, 290, 289, 305, 306, 307, 308, 309, 302, 303, 304] G G := fx.rf
  have hlen : G.length = G.length := rfl
  have hsl : ab_slots G = ab_slots G := rfl
  refine ab_aload_n d_MO_readCharacter_0 rfl ?_
  refine ab_callV (d' := d - 1) (as := []) (st := []) (r := _) (z_MO_begin (o := o) (m_thrown := m_thrown) (m_taped := m_taped) (m_length := m_length) (m_out := m_out) (m_wide := m_wide) (m_gathered := m_gathered) (m_sets := m_sets) (m_ranges := m_ranges) (m_nodes := m_nodes) (m_at := m_at) (m_flags := m_flags) (m_fault := m_fault) (m_place := m_place) (m_numbered := m_numbered) (m_depth := m_depth) (m_value := m_value) (m_isNot := m_isNot) (m_least0 := m_least0) (m_most0 := m_most0) (m_slot := m_slot) (m_work := m_work) (m_got := m_got) (m_rowMany := m_rowMany) (m_charAt := m_charAt) (m_charWide := m_charWide) (m_trail := m_trail) (m_isMatch := m_isMatch) (m_matchGroups := m_matchGroups) (m_allFrom := m_allFrom) (m_allBefore := m_allBefore) (m_founds := m_founds) (m_pieces := m_pieces) (m_writtenMany := m_writtenMany) (m_templateWide := m_templateWide) (m_tooMuch := m_tooMuch) (LO := LO) (HI := HI) (MK := MK) h80 h93 h87 h88 (by omega) jmk (by omega)) (fun oc G2 h => by rcases h with ⟨_, h, _⟩ <;> exact ⟨_, h⟩) (by omega) m_MO_begin ml_MO_362 im_MO_begin se_MO_begin c_MO h80.2.2 (Nat.le_of_ble_eq_true rfl) d_MO_readCharacter_1 rfl ?_
  intro v G1 hq
  rcases hq with ⟨MK22, hv, hfk, hlk, hsk, hN80, hN93, hq3, hq4⟩
  cases hv
  have h84 := hfk.get h84 (by decide)
  have h87 := hfk.get h87 (by decide)
  have h88 := hfk.get h88 (by decide)
  have h81 := hfk.get h81 (by decide)
  have h82 := hfk.get h82 (by decide)
  have h91 := hfk.get h91 (by decide)
  have h92 := hfk.get h92 (by decide)
  have h110 := hfk.get h110 (by decide)
  have h111 := hfk.get h111 (by decide)
  have ptrI_0 := trI.fr hfk ptrI_0 (by decide) (by decide) (by decide) (by decide) (by decide) (by decide) (by decide) (by decide) (by decide) (by decide) (by decide) (by decide) (by decide) (by decide) (by decide) (by decide) (by decide) (by decide)
  have hfr := hfr.tr hfk (by decide)
  have hlen := hlk.trans hlen
  have hsl := hsk.trans hsl
  have h80 := hN80
  have h93 := hN93
  change ab_W _ _ _ G1 4 [some (vR 80), some (vz c), none, none] [] _
  obtain ⟨K, O, Fi, Be, Le, Mo, Z, LZ, SM, SA, QF, QL, AF, AL, SD, OA, OF, ON, h94, h95, h96, h97, h98, h99, h100, h101, h90, h89, h105, h106, h107, h108, h109, h102, h103, h104, jk, jo, jfi, jbe, jle, jmo, jz, jlz, jsm, jsa, jqf, jql, jaf, jal, jsd, joa, jof, jon, jt, cnd, cre, crs, crz, ck5, ck6, ck7, jss, jsv⟩ := ptrI_0
  refine ab_aload_n d_MO_readCharacter_4 rfl ?_
  refine ab_iload_n d_MO_readCharacter_5 rfl ?_
  refine ab_iload_n d_MO_readCharacter_6 rfl ?_
  refine ab_aload_n d_MO_readCharacter_7 rfl ?_
  refine zz_iconst d_MO_readCharacter_8 ?_
  refine ab_callV (d' := d - 1) (as := [vz 1]) (st := [vz c, vz c, vR 80]) (r := _) (z1_MO_has (o := o) (m_thrown := m_thrown) (m_taped := m_taped) (m_length := m_length) (m_out := m_out) (m_wide := m_wide) (m_gathered := 0) (m_sets := m_sets) (m_ranges := m_ranges) (m_nodes := m_nodes) (m_at := m_at) (m_flags := m_flags) (m_fault := m_fault) (m_place := m_place) (m_numbered := m_numbered) (m_depth := m_depth) (m_value := m_value) (m_isNot := m_isNot) (m_least0 := m_least0) (m_most0 := m_most0) (m_slot := m_slot) (m_work := m_work) (m_got := m_got) (m_rowMany := m_rowMany) (m_charAt := m_charAt) (m_charWide := m_charWide) (m_trail := m_trail) (m_isMatch := m_isMatch) (m_matchGroups := m_matchGroups) (m_allFrom := m_allFrom) (m_allBefore := m_allBefore) (m_founds := m_founds) (m_pieces := m_pieces) (m_writtenMany := m_writtenMany) (m_templateWide := m_templateWide) (m_tooMuch := m_tooMuch) h80 (by omega)) (fun oc G2 h => by rcases h with ⟨_, h, _⟩ <;> exact ⟨_, h⟩) (by omega) m_MO_has ml_MO_355 im_MO_has se_MO_has c_MO h80.2.2 (Nat.le_of_ble_eq_true rfl) d_MO_readCharacter_9 rfl ?_
  intro v G5 hq
  rcases hq with ⟨v6, hv, hGe, hq7, hq8⟩
  cases hv
  rw [hGe]
  change ab_W _ _ _ G1 12 [some (vR 80), some (vz c), none, none] [vz v6, vz c, vz c, vR 80] _
  refine ab_callV (d' := d - 1) (as := [vz c, vz c, vz v6]) (st := []) (r := _) (z_MO_gatherLike (o := o) (m_thrown := m_thrown) (m_taped := m_taped) (m_length := m_length) (m_out := m_out) (m_wide := m_wide) (m_gathered := 0) (m_sets := m_sets) (m_ranges := m_ranges) (m_nodes := m_nodes) (m_at := m_at) (m_flags := m_flags) (m_fault := m_fault) (m_place := m_place) (m_numbered := m_numbered) (m_depth := m_depth) (m_value := m_value) (m_isNot := m_isNot) (m_least0 := m_least0) (m_most0 := m_most0) (m_slot := m_slot) (m_work := m_work) (m_got := m_got) (m_rowMany := m_rowMany) (m_charAt := m_charAt) (m_charWide := m_charWide) (m_trail := m_trail) (m_isMatch := m_isMatch) (m_matchGroups := m_matchGroups) (m_allFrom := m_allFrom) (m_allBefore := m_allBefore) (m_founds := m_founds) (m_pieces := m_pieces) (m_writtenMany := m_writtenMany) (m_templateWide := m_templateWide) (m_tooMuch := m_tooMuch) (LO := LO) (HI := HI) (MK := MK22) (P := (fun _ => False)) (a := c) (b := c) (lk := v6) h80 h87 h88 h93 (by omega) (by omega) (by omega) (by omega) hq3 hq4 (by omega)) (fun oc G2 h => by rcases h with ⟨_, _, _, h, _⟩ <;> exact ⟨_, h⟩) (by omega) m_MO_gatherLike ml_MO_358 im_MO_gatherLike se_MO_gatherLike c_MO h80.2.2 (Nat.le_of_ble_eq_true rfl) d_MO_readCharacter_12 rfl ?_
  intro v G9 hq
  rcases hq with ⟨LO210, HI211, MK212, hv, hfk, hlk, hsk, hN80, hN87, hN88, hN93, hq13, hq14⟩
  cases hv
  have h84 := hfk.get h84 (by decide)
  have h81 := hfk.get h81 (by decide)
  have h82 := hfk.get h82 (by decide)
  have h91 := hfk.get h91 (by decide)
  have h92 := hfk.get h92 (by decide)
  have h110 := hfk.get h110 (by decide)
  have h111 := hfk.get h111 (by decide)
  have h94 := hfk.get h94 (by decide)
  have h95 := hfk.get h95 (by decide)
  have h96 := hfk.get h96 (by decide)
  have h97 := hfk.get h97 (by decide)
  have h98 := hfk.get h98 (by decide)
  have h99 := hfk.get h99 (by decide)
  have h100 := hfk.get h100 (by decide)
  have h101 := hfk.get h101 (by decide)
  have h90 := hfk.get h90 (by decide)
  have h89 := hfk.get h89 (by decide)
  have h105 := hfk.get h105 (by decide)
  have h106 := hfk.get h106 (by decide)
  have h107 := hfk.get h107 (by decide)
  have h108 := hfk.get h108 (by decide)
  have h109 := hfk.get h109 (by decide)
  have h102 := hfk.get h102 (by decide)
  have h103 := hfk.get h103 (by decide)
  have h104 := hfk.get h104 (by decide)
  have hfr := hfr.tr hfk (by decide)
  have hlen := hlk.trans hlen
  have hsl := hsk.trans hsl
  have h80 := hN80
  have h87 := hN87
  have h88 := hN88
  have h93 := hN93
  change ab_W _ _ _ G9 15 [some (vR 80), some (vz c), none, none] [] _
  refine ab_aload_n d_MO_readCharacter_15 rfl ?_
  refine zz_iconst d_MO_readCharacter_16 ?_
  refine ab_callV (d' := d - 1) (as := [vz 0]) (st := []) (r := _) (z_MO_close (o := o) (m_thrown := m_thrown) (m_taped := m_taped) (m_length := m_length) (m_out := m_out) (m_wide := m_wide) (m_gathered := (0 + 1)) (m_sets := m_sets) (m_ranges := m_ranges) (m_nodes := m_nodes) (m_at := m_at) (m_flags := m_flags) (m_fault := m_fault) (m_place := m_place) (m_numbered := m_numbered) (m_depth := m_depth) (m_value := m_value) (m_isNot := m_isNot) (m_least0 := m_least0) (m_most0 := m_most0) (m_slot := m_slot) (m_work := m_work) (m_got := m_got) (m_rowMany := m_rowMany) (m_charAt := m_charAt) (m_charWide := m_charWide) (m_trail := m_trail) (m_isMatch := m_isMatch) (m_matchGroups := m_matchGroups) (m_allFrom := m_allFrom) (m_allBefore := m_allBefore) (m_founds := m_founds) (m_pieces := m_pieces) (m_writtenMany := m_writtenMany) (m_templateWide := m_templateWide) (m_tooMuch := m_tooMuch) (LO := LO210) (HI := HI211) (MK := MK212) (RL := RL) (RH := RH) (SA := SA) (SM := SM) (P := (fun x => (fun _ => False) x ∨ lkS v6 c c x)) (nt := 0) (mm := 11) h80 h87 h88 h93 h91 h92 h89 h90 (by omega) hq13 (by omega) hq14 (lfc_w (lfc_or (lfc_0 (fun _ h => h)) (lfc_lk1 (by omega) (by omega))) (by decide)) jrl jrh (by omega)) (fun oc G2 h => by rcases h with ⟨_, _, _, _, _, _, h, _⟩ <;> exact ⟨_, h⟩) (by omega) m_MO_close ml_MO_368 im_MO_close se_MO_close c_MO h80.2.2 (Nat.le_of_ble_eq_true rfl) d_MO_readCharacter_17 rfl ?_
  intro v G15 hq
  rcases hq with ⟨g216, r217, LO218, HI219, RL220, RH221, hv, hfk, hlk, hsk, hN80, hN87, hN88, hN91, hN92, hN89, hN90, hq22, hq23, hq24, hq25, hq26⟩
  cases hv
  have h84 := hfk.get h84 (by decide)
  have h93 := hfk.get h93 (by decide)
  have h81 := hfk.get h81 (by decide)
  have h82 := hfk.get h82 (by decide)
  have h110 := hfk.get h110 (by decide)
  have h111 := hfk.get h111 (by decide)
  have h94 := hfk.get h94 (by decide)
  have h95 := hfk.get h95 (by decide)
  have h96 := hfk.get h96 (by decide)
  have h97 := hfk.get h97 (by decide)
  have h98 := hfk.get h98 (by decide)
  have h99 := hfk.get h99 (by decide)
  have h100 := hfk.get h100 (by decide)
  have h101 := hfk.get h101 (by decide)
  have h105 := hfk.get h105 (by decide)
  have h106 := hfk.get h106 (by decide)
  have h107 := hfk.get h107 (by decide)
  have h108 := hfk.get h108 (by decide)
  have h109 := hfk.get h109 (by decide)
  have h102 := hfk.get h102 (by decide)
  have h103 := hfk.get h103 (by decide)
  have h104 := hfk.get h104 (by decide)
  have hfr := hfr.tr hfk (by decide)
  have hlen := hlk.trans hlen
  have hsl := hsk.trans hsl
  have h80 := hN80
  have h87 := hN87
  have h88 := hN88
  have h91 := hN91
  have h92 := hN92
  have h89 := hN89
  have h90 := hN90
  change ab_W _ _ _ G15 20 [some (vR 80), some (vz c), none, none] [vz m_sets] _
  refine ab_istore_n d_MO_readCharacter_20 (Nat.le_of_ble_eq_true rfl) (Nat.le_of_ble_eq_true rfl) rfl ?_
  change ab_W _ _ _ G15 21 [some (vR 80), some (vz c), some (vz m_sets), none] [] _
  refine ab_aload_n d_MO_readCharacter_21 rfl ?_
  refine ab_getf (fs := mof m_thrown m_taped m_length m_out m_wide g216 (m_sets + 1) r217 m_nodes m_at m_flags m_fault m_place m_numbered m_depth m_value m_isNot m_least0 m_most0 m_slot m_work m_got m_rowMany m_charAt m_charWide m_trail m_isMatch m_matchGroups m_allFrom m_allBefore m_founds m_pieces m_writtenMany m_templateWide m_tooMuch) f_MO_37 d_MO_readCharacter_22 h80.2.2 rfl ?_
  refine ab_iload_n d_MO_readCharacter_25 rfl ?_
  refine zz_iald d_MO_readCharacter_26 h90 (by omega) ?_
  refine zz_top (zu_self _ _ _) ?_
  refine zz_iconst d_MO_readCharacter_27 ?_
  refine zz_icmp_ne (tgt := 60) d_MO_readCharacter_28 (by decide) (by omega) (by decide) (fun c27 => ?_) (fun c27 => ?_)
  · refine zz_iconst d_MO_readCharacter_60 ?_
    refine ab_istore_n d_MO_readCharacter_61 (Nat.le_of_ble_eq_true rfl) (Nat.le_of_ble_eq_true rfl) rfl ?_
    change ab_W _ _ _ G15 62 [some (vR 80), some (vz c), some (vz m_sets), some (vz 0)] [] _
    refine ab_aload_n d_MO_readCharacter_62 rfl ?_
    refine ab_aload_n d_MO_readCharacter_63 rfl ?_
    refine ab_iload_n d_MO_readCharacter_64 rfl ?_
    refine ab_iload_n d_MO_readCharacter_65 rfl ?_
    refine ab_callV (d' := d - 1) (as := [vz m_sets, vz 0]) (st := [vR 80]) (r := _) (z_MO_setNode (o := o) (m_thrown := m_thrown) (m_taped := m_taped) (m_length := m_length) (m_out := m_out) (m_wide := m_wide) (m_gathered := g216) (m_sets := (m_sets + 1)) (m_ranges := r217) (m_nodes := m_nodes) (m_at := m_at) (m_flags := m_flags) (m_fault := m_fault) (m_place := m_place) (m_numbered := m_numbered) (m_depth := m_depth) (m_value := m_value) (m_isNot := m_isNot) (m_least0 := m_least0) (m_most0 := m_most0) (m_slot := m_slot) (m_work := m_work) (m_got := m_got) (m_rowMany := m_rowMany) (m_charAt := m_charAt) (m_charWide := m_charWide) (m_trail := m_trail) (m_isMatch := m_isMatch) (m_matchGroups := m_matchGroups) (m_allFrom := m_allFrom) (m_allBefore := m_allBefore) (m_founds := m_founds) (m_pieces := m_pieces) (m_writtenMany := m_writtenMany) (m_templateWide := m_templateWide) (m_tooMuch := m_tooMuch) (K := K) (O := O) (Fi := Fi) (Be := Be) (Z := Z) (SM := (zu SM m_sets (r217 - m_ranges))) (s := m_sets) (on := 0) h80 h90 h94 h95 h96 h97 h100 (by omega) (by omega) (rgs_zu jsm (by omega)) (by omega)) (fun oc G2 h => by rcases h with ⟨_, h, _⟩ <;> exact ⟨_, h⟩) (by omega) m_MO_setNode ml_MO_371 im_MO_setNode se_MO_setNode c_MO h80.2.2 (Nat.le_of_ble_eq_true rfl) d_MO_readCharacter_66 rfl ?_
    intro v G28 hq
    rcases hq with ⟨z229, hv, hfk, hlk, hsk, hN80, hN94, hN95, hN96, hN97, hN100, hq30⟩
    cases hv
    have h84 := hfk.get h84 (by decide)
    have h87 := hfk.get h87 (by decide)
    have h88 := hfk.get h88 (by decide)
    have h93 := hfk.get h93 (by decide)
    have h81 := hfk.get h81 (by decide)
    have h82 := hfk.get h82 (by decide)
    have h91 := hfk.get h91 (by decide)
    have h92 := hfk.get h92 (by decide)
    have h110 := hfk.get h110 (by decide)
    have h111 := hfk.get h111 (by decide)
    have h98 := hfk.get h98 (by decide)
    have h99 := hfk.get h99 (by decide)
    have h101 := hfk.get h101 (by decide)
    have h90 := hfk.get h90 (by decide)
    have h89 := hfk.get h89 (by decide)
    have h105 := hfk.get h105 (by decide)
    have h106 := hfk.get h106 (by decide)
    have h107 := hfk.get h107 (by decide)
    have h108 := hfk.get h108 (by decide)
    have h109 := hfk.get h109 (by decide)
    have h102 := hfk.get h102 (by decide)
    have h103 := hfk.get h103 (by decide)
    have h104 := hfk.get h104 (by decide)
    have hfr := hfr.tr hfk (by decide)
    have hlen := hlk.trans hlen
    have hsl := hsk.trans hsl
    have h80 := hN80
    have h94 := hN94
    have h95 := hN95
    have h96 := hN96
    have h97 := hN97
    have h100 := hN100
    change ab_W _ _ _ G28 69 [some (vR 80), some (vz c), some (vz m_sets), some (vz 0)] [vz m_nodes, vR 80] _
    have hsz_ : zu SM m_sets (r217 - m_ranges) m_sets = (r217 - m_ranges) := zu_self _ _ _
    have ptrI_0 : trI o G28 0 (m_nodes + 1) (m_sets + 1) (m_depth + 1) m_nodes 0 6 ((a1_, b1_, c1_, d1_, e1_) :: t1_) rp ls z229 (fun s => if s = m_sets then (clno 0 (fun x => (fun _ => False) x ∨ lkS v6 c c x)) else SV s) ((ao1_, ro1_) :: ts1_) ro vv (mnS (clno 0 (fun x => (fun _ => False) x ∨ lkS v6 c c x))) RL220 RH221 r217 0 0 := ⟨(zu K m_nodes 1), (zu O m_nodes m_sets), (zu Fi m_nodes (-1)), (zu Be m_nodes (-1)), Le, Mo, (zu Z m_nodes z229), LZ, (zu SM m_sets (r217 - m_ranges)), (zu SA m_sets m_ranges), QF, QL, AF, AL, SD, OA, OF, ON, h94, h95, h96, h97, h98, h99, h100, h101, h90, h89, h105, h106, h107, h108, h109, h102, h103, h104, (rgs_zu jk (by omega)), (rgs_zu jo (by omega)), (rgs_zu jfi (by omega)), (rgs_zu jbe (by omega)), jle, jmo, (rgs_zu jz (by omega)), jlz, (rgs_zu jsm (by omega)), (rgs_zu jsa (by omega)), jqf, jql, jaf, jal, jsd, joa, jof, jon, (rtk_leaf (rtk_ns (S := (clno 0 (fun x => (fun _ => False) x ∨ lkS v6 c c x))) jt) (by omega) (Or.inr (Or.inl ⟨rfl, by omega, by omega, by omega, by rw [zu_self]; omega⟩)) (Or.inr (Or.inl ⟨rfl, mnS_ns (SV := SV)⟩))), (by omega), (fun h => absurd h (by decide)), (fun h => absurd h (by decide)), (fun h => absurd h (by decide)), (fun h => absurd h (by decide)), (fun _ => by rw [zu_self]; decide), (fun h => absurd h (by decide)), (sas_s jss (by omega)), (svR_s jsv hq26.1 hq26.2 hq25 (by omega))⟩
    refine zz_iconst d_MO_readCharacter_69 ?_
    refine ab_callV (d' := d - 1) (as := [vz m_nodes, vz 1]) (st := []) (r := _) (z1_MO_part (o := o) (m_thrown := m_thrown) (m_taped := m_taped) (m_length := m_length) (m_out := m_out) (m_wide := m_wide) (m_gathered := g216) (m_sets := (m_sets + 1)) (m_ranges := r217) (m_nodes := (m_nodes + 1)) (m_at := m_at) (m_flags := m_flags) (m_fault := m_fault) (m_place := m_place) (m_numbered := m_numbered) (m_depth := m_depth) (m_value := m_value) (m_isNot := m_isNot) (m_least0 := m_least0) (m_most0 := m_most0) (m_slot := m_slot) (m_work := m_work) (m_got := m_got) (m_rowMany := m_rowMany) (m_charAt := m_charAt) (m_charWide := m_charWide) (m_trail := m_trail) (m_isMatch := m_isMatch) (m_matchGroups := m_matchGroups) (m_allFrom := m_allFrom) (m_allBefore := m_allBefore) (m_founds := m_founds) (m_pieces := m_pieces) (m_writtenMany := m_writtenMany) (m_templateWide := m_templateWide) (m_tooMuch := m_tooMuch) (x := m_nodes) (dh := 0) (rp := rp) (ls := ls) (dz := z229) (SV := (fun s => if s = m_sets then (clno 0 (fun x => (fun _ => False) x ∨ lkS v6 c c x)) else SV s)) (ro := ro) (vv := vv) (dv := (mnS (clno 0 (fun x => (fun _ => False) x ∨ lkS v6 c c x)))) (a1_ := a1_) (b1_ := b1_) (c1_ := c1_) (d1_ := d1_) (e1_ := e1_) (nu9 := 0) (fo9 := 0) (t1_ := t1_) (ao1_ := ao1_) (ro1_ := ro1_) (ts1_ := ts1_) (RL := RL220) (RH := RH221) h80 ptrI_0 (by omega) (by omega) (by omega) (by omega)) (fun oc G2 h => by rcases h with ⟨h, _⟩ <;> exact ⟨_, h⟩) (by omega) m_MO_part ml_MO_375 im_MO_part se_MO_part c_MO h80.2.2 (Nat.le_of_ble_eq_true rfl) d_MO_readCharacter_70 rfl ?_
    intro v G31 hq
    rcases hq with ⟨hv, hfk, hlk, hsk, pNtrI_0⟩
    cases hv
    have h80 := hfk.get h80 (by decide)
    have h84 := hfk.get h84 (by decide)
    have h87 := hfk.get h87 (by decide)
    have h88 := hfk.get h88 (by decide)
    have h93 := hfk.get h93 (by decide)
    have h81 := hfk.get h81 (by decide)
    have h82 := hfk.get h82 (by decide)
    have h91 := hfk.get h91 (by decide)
    have h92 := hfk.get h92 (by decide)
    have h110 := hfk.get h110 (by decide)
    have h111 := hfk.get h111 (by decide)
    have ptrI_0 := pNtrI_0
    have hfr := hfr.tr hfk (by decide)
    have hlen := hlk.trans hlen
    have hsl := hsk.trans hsl
    change ab_W _ _ _ G31 73 [some (vR 80), some (vz c), some (vz m_sets), some (vz 0)] [] _
    refine ab_vret rfl d_MO_readCharacter_73 ?_
    rw [hQ]; exact ⟨_, _, _, _, _, _, _, _, _, _, z229, _, _, _, _, _, (fun s => if s = m_sets then (clno 0 (fun x => (fun _ => False) x ∨ lkS v6 c c x)) else SV s), (mnS (clno 0 (fun x => (fun _ => False) x ∨ lkS v6 c c x))), rfl, hfr, hlen, hsl, h80, h87, h88, h93, h91, h92, h110, h111, ptrI_0, (by omega), (by first | exact hq13 | exact rgs_w hq13 (by omega)), (by first | exact hq22 | exact rgs_w hq22 (by omega)), (by first | exact hq23 | exact rgs_w hq23 (by omega)), (by rw [show m_flags % 2 = v6 by omega]; exact chz_of hq25 (by omega)), (by rw [show m_flags % 2 = v6 by omega]; exact chv_of)⟩
  · have hrl_ := hq22 m_ranges (by omega) (by omega)
    have hrh_ := hq23 m_ranges (by omega) (by omega)
    refine ab_aload_n d_MO_readCharacter_31 rfl ?_
    refine ab_getf (fs := mof m_thrown m_taped m_length m_out m_wide g216 (m_sets + 1) r217 m_nodes m_at m_flags m_fault m_place m_numbered m_depth m_value m_isNot m_least0 m_most0 m_slot m_work m_got m_rowMany m_charAt m_charWide m_trail m_isMatch m_matchGroups m_allFrom m_allBefore m_founds m_pieces m_writtenMany m_templateWide m_tooMuch) f_MO_40 d_MO_readCharacter_32 h80.2.2 rfl ?_
    refine ab_aload_n d_MO_readCharacter_35 rfl ?_
    refine ab_getf (fs := mof m_thrown m_taped m_length m_out m_wide g216 (m_sets + 1) r217 m_nodes m_at m_flags m_fault m_place m_numbered m_depth m_value m_isNot m_least0 m_most0 m_slot m_work m_got m_rowMany m_charAt m_charWide m_trail m_isMatch m_matchGroups m_allFrom m_allBefore m_founds m_pieces m_writtenMany m_templateWide m_tooMuch) f_MO_34 d_MO_readCharacter_36 h80.2.2 rfl ?_
    refine ab_iload_n d_MO_readCharacter_39 rfl ?_
    refine zz_iald d_MO_readCharacter_40 h89 (by omega) ?_
    refine zz_top (zu_self _ _ _) ?_
    refine zz_iald d_MO_readCharacter_41 h91 (by omega) ?_
    refine ab_aload_n d_MO_readCharacter_42 rfl ?_
    refine ab_getf (fs := mof m_thrown m_taped m_length m_out m_wide g216 (m_sets + 1) r217 m_nodes m_at m_flags m_fault m_place m_numbered m_depth m_value m_isNot m_least0 m_most0 m_slot m_work m_got m_rowMany m_charAt m_charWide m_trail m_isMatch m_matchGroups m_allFrom m_allBefore m_founds m_pieces m_writtenMany m_templateWide m_tooMuch) f_MO_43 d_MO_readCharacter_43 h80.2.2 rfl ?_
    refine ab_aload_n d_MO_readCharacter_46 rfl ?_
    refine ab_getf (fs := mof m_thrown m_taped m_length m_out m_wide g216 (m_sets + 1) r217 m_nodes m_at m_flags m_fault m_place m_numbered m_depth m_value m_isNot m_least0 m_most0 m_slot m_work m_got m_rowMany m_charAt m_charWide m_trail m_isMatch m_matchGroups m_allFrom m_allBefore m_founds m_pieces m_writtenMany m_templateWide m_tooMuch) f_MO_34 d_MO_readCharacter_47 h80.2.2 rfl ?_
    refine ab_iload_n d_MO_readCharacter_50 rfl ?_
    refine zz_iald d_MO_readCharacter_51 h89 (by omega) ?_
    refine zz_top (zu_self _ _ _) ?_
    refine zz_iald d_MO_readCharacter_52 h92 (by omega) ?_
    refine zz_icmp_ne (tgt := 60) d_MO_readCharacter_53 (by decide) (by omega) (by omega) (fun c32 => ?_) (fun c32 => ?_)
    · refine zz_iconst d_MO_readCharacter_60 ?_
      refine ab_istore_n d_MO_readCharacter_61 (Nat.le_of_ble_eq_true rfl) (Nat.le_of_ble_eq_true rfl) rfl ?_
      change ab_W _ _ _ G15 62 [some (vR 80), some (vz c), some (vz m_sets), some (vz 0)] [] _
      refine ab_aload_n d_MO_readCharacter_62 rfl ?_
      refine ab_aload_n d_MO_readCharacter_63 rfl ?_
      refine ab_iload_n d_MO_readCharacter_64 rfl ?_
      refine ab_iload_n d_MO_readCharacter_65 rfl ?_
      refine ab_callV (d' := d - 1) (as := [vz m_sets, vz 0]) (st := [vR 80]) (r := _) (z_MO_setNode (o := o) (m_thrown := m_thrown) (m_taped := m_taped) (m_length := m_length) (m_out := m_out) (m_wide := m_wide) (m_gathered := g216) (m_sets := (m_sets + 1)) (m_ranges := r217) (m_nodes := m_nodes) (m_at := m_at) (m_flags := m_flags) (m_fault := m_fault) (m_place := m_place) (m_numbered := m_numbered) (m_depth := m_depth) (m_value := m_value) (m_isNot := m_isNot) (m_least0 := m_least0) (m_most0 := m_most0) (m_slot := m_slot) (m_work := m_work) (m_got := m_got) (m_rowMany := m_rowMany) (m_charAt := m_charAt) (m_charWide := m_charWide) (m_trail := m_trail) (m_isMatch := m_isMatch) (m_matchGroups := m_matchGroups) (m_allFrom := m_allFrom) (m_allBefore := m_allBefore) (m_founds := m_founds) (m_pieces := m_pieces) (m_writtenMany := m_writtenMany) (m_templateWide := m_templateWide) (m_tooMuch := m_tooMuch) (K := K) (O := O) (Fi := Fi) (Be := Be) (Z := Z) (SM := (zu SM m_sets (r217 - m_ranges))) (s := m_sets) (on := 0) h80 h90 h94 h95 h96 h97 h100 (by omega) (by omega) (rgs_zu jsm (by omega)) (by omega)) (fun oc G2 h => by rcases h with ⟨_, h, _⟩ <;> exact ⟨_, h⟩) (by omega) m_MO_setNode ml_MO_371 im_MO_setNode se_MO_setNode c_MO h80.2.2 (Nat.le_of_ble_eq_true rfl) d_MO_readCharacter_66 rfl ?_
      intro v G33 hq
      rcases hq with ⟨z234, hv, hfk, hlk, hsk, hN80, hN94, hN95, hN96, hN97, hN100, hq35⟩
      cases hv
      have h84 := hfk.get h84 (by decide)
      have h87 := hfk.get h87 (by decide)
      have h88 := hfk.get h88 (by decide)
      have h93 := hfk.get h93 (by decide)
      have h81 := hfk.get h81 (by decide)
      have h82 := hfk.get h82 (by decide)
      have h91 := hfk.get h91 (by decide)
      have h92 := hfk.get h92 (by decide)
      have h110 := hfk.get h110 (by decide)
      have h111 := hfk.get h111 (by decide)
      have h98 := hfk.get h98 (by decide)
      have h99 := hfk.get h99 (by decide)
      have h101 := hfk.get h101 (by decide)
      have h90 := hfk.get h90 (by decide)
      have h89 := hfk.get h89 (by decide)
      have h105 := hfk.get h105 (by decide)
      have h106 := hfk.get h106 (by decide)
      have h107 := hfk.get h107 (by decide)
      have h108 := hfk.get h108 (by decide)
      have h109 := hfk.get h109 (by decide)
      have h102 := hfk.get h102 (by decide)
      have h103 := hfk.get h103 (by decide)
      have h104 := hfk.get h104 (by decide)
      have hfr := hfr.tr hfk (by decide)
      have hlen := hlk.trans hlen
      have hsl := hsk.trans hsl
      have h80 := hN80
      have h94 := hN94
      have h95 := hN95
      have h96 := hN96
      have h97 := hN97
      have h100 := hN100
      change ab_W _ _ _ G33 69 [some (vR 80), some (vz c), some (vz m_sets), some (vz 0)] [vz m_nodes, vR 80] _
      have hsz_ : zu SM m_sets (r217 - m_ranges) m_sets = (r217 - m_ranges) := zu_self _ _ _
      have ptrI_0 : trI o G33 0 (m_nodes + 1) (m_sets + 1) (m_depth + 1) m_nodes 0 6 ((a1_, b1_, c1_, d1_, e1_) :: t1_) rp ls z234 (fun s => if s = m_sets then (clno 0 (fun x => (fun _ => False) x ∨ lkS v6 c c x)) else SV s) ((ao1_, ro1_) :: ts1_) ro vv (mnS (clno 0 (fun x => (fun _ => False) x ∨ lkS v6 c c x))) RL220 RH221 r217 0 0 := ⟨(zu K m_nodes 1), (zu O m_nodes m_sets), (zu Fi m_nodes (-1)), (zu Be m_nodes (-1)), Le, Mo, (zu Z m_nodes z234), LZ, (zu SM m_sets (r217 - m_ranges)), (zu SA m_sets m_ranges), QF, QL, AF, AL, SD, OA, OF, ON, h94, h95, h96, h97, h98, h99, h100, h101, h90, h89, h105, h106, h107, h108, h109, h102, h103, h104, (rgs_zu jk (by omega)), (rgs_zu jo (by omega)), (rgs_zu jfi (by omega)), (rgs_zu jbe (by omega)), jle, jmo, (rgs_zu jz (by omega)), jlz, (rgs_zu jsm (by omega)), (rgs_zu jsa (by omega)), jqf, jql, jaf, jal, jsd, joa, jof, jon, (rtk_leaf (rtk_ns (S := (clno 0 (fun x => (fun _ => False) x ∨ lkS v6 c c x))) jt) (by omega) (Or.inr (Or.inl ⟨rfl, by omega, by omega, by omega, by rw [zu_self]; omega⟩)) (Or.inr (Or.inl ⟨rfl, mnS_ns (SV := SV)⟩))), (by omega), (fun h => absurd h (by decide)), (fun h => absurd h (by decide)), (fun h => absurd h (by decide)), (fun h => absurd h (by decide)), (fun _ => by rw [zu_self]; decide), (fun h => absurd h (by decide)), (sas_s jss (by omega)), (svR_s jsv hq26.1 hq26.2 hq25 (by omega))⟩
      refine zz_iconst d_MO_readCharacter_69 ?_
      refine ab_callV (d' := d - 1) (as := [vz m_nodes, vz 1]) (st := []) (r := _) (z1_MO_part (o := o) (m_thrown := m_thrown) (m_taped := m_taped) (m_length := m_length) (m_out := m_out) (m_wide := m_wide) (m_gathered := g216) (m_sets := (m_sets + 1)) (m_ranges := r217) (m_nodes := (m_nodes + 1)) (m_at := m_at) (m_flags := m_flags) (m_fault := m_fault) (m_place := m_place) (m_numbered := m_numbered) (m_depth := m_depth) (m_value := m_value) (m_isNot := m_isNot) (m_least0 := m_least0) (m_most0 := m_most0) (m_slot := m_slot) (m_work := m_work) (m_got := m_got) (m_rowMany := m_rowMany) (m_charAt := m_charAt) (m_charWide := m_charWide) (m_trail := m_trail) (m_isMatch := m_isMatch) (m_matchGroups := m_matchGroups) (m_allFrom := m_allFrom) (m_allBefore := m_allBefore) (m_founds := m_founds) (m_pieces := m_pieces) (m_writtenMany := m_writtenMany) (m_templateWide := m_templateWide) (m_tooMuch := m_tooMuch) (x := m_nodes) (dh := 0) (rp := rp) (ls := ls) (dz := z234) (SV := (fun s => if s = m_sets then (clno 0 (fun x => (fun _ => False) x ∨ lkS v6 c c x)) else SV s)) (ro := ro) (vv := vv) (dv := (mnS (clno 0 (fun x => (fun _ => False) x ∨ lkS v6 c c x)))) (a1_ := a1_) (b1_ := b1_) (c1_ := c1_) (d1_ := d1_) (e1_ := e1_) (nu9 := 0) (fo9 := 0) (t1_ := t1_) (ao1_ := ao1_) (ro1_ := ro1_) (ts1_ := ts1_) (RL := RL220) (RH := RH221) h80 ptrI_0 (by omega) (by omega) (by omega) (by omega)) (fun oc G2 h => by rcases h with ⟨h, _⟩ <;> exact ⟨_, h⟩) (by omega) m_MO_part ml_MO_375 im_MO_part se_MO_part c_MO h80.2.2 (Nat.le_of_ble_eq_true rfl) d_MO_readCharacter_70 rfl ?_
      intro v G36 hq
      rcases hq with ⟨hv, hfk, hlk, hsk, pNtrI_0⟩
      cases hv
      have h80 := hfk.get h80 (by decide)
      have h84 := hfk.get h84 (by decide)
      have h87 := hfk.get h87 (by decide)
      have h88 := hfk.get h88 (by decide)
      have h93 := hfk.get h93 (by decide)
      have h81 := hfk.get h81 (by decide)
      have h82 := hfk.get h82 (by decide)
      have h91 := hfk.get h91 (by decide)
      have h92 := hfk.get h92 (by decide)
      have h110 := hfk.get h110 (by decide)
      have h111 := hfk.get h111 (by decide)
      have ptrI_0 := pNtrI_0
      have hfr := hfr.tr hfk (by decide)
      have hlen := hlk.trans hlen
      have hsl := hsk.trans hsl
      change ab_W _ _ _ G36 73 [some (vR 80), some (vz c), some (vz m_sets), some (vz 0)] [] _
      refine ab_vret rfl d_MO_readCharacter_73 ?_
      rw [hQ]; exact ⟨_, _, _, _, _, _, _, _, _, _, z234, _, _, _, _, _, (fun s => if s = m_sets then (clno 0 (fun x => (fun _ => False) x ∨ lkS v6 c c x)) else SV s), (mnS (clno 0 (fun x => (fun _ => False) x ∨ lkS v6 c c x))), rfl, hfr, hlen, hsl, h80, h87, h88, h93, h91, h92, h110, h111, ptrI_0, (by omega), (by first | exact hq13 | exact rgs_w hq13 (by omega)), (by first | exact hq22 | exact rgs_w hq22 (by omega)), (by first | exact hq23 | exact rgs_w hq23 (by omega)), (by rw [show m_flags % 2 = v6 by omega]; exact chz_of hq25 (by omega)), (by rw [show m_flags % 2 = v6 by omega]; exact chv_of)⟩
    · refine zz_iconst d_MO_readCharacter_56 ?_
      refine ab_goto (tgt := 61) d_MO_readCharacter_57 (by decide) ?_
      refine ab_istore_n d_MO_readCharacter_61 (Nat.le_of_ble_eq_true rfl) (Nat.le_of_ble_eq_true rfl) rfl ?_
      change ab_W _ _ _ G15 62 [some (vR 80), some (vz c), some (vz m_sets), some (vz 1)] [] _
      refine ab_aload_n d_MO_readCharacter_62 rfl ?_
      refine ab_aload_n d_MO_readCharacter_63 rfl ?_
      refine ab_iload_n d_MO_readCharacter_64 rfl ?_
      refine ab_iload_n d_MO_readCharacter_65 rfl ?_
      refine ab_callV (d' := d - 1) (as := [vz m_sets, vz 1]) (st := [vR 80]) (r := _) (z_MO_setNode (o := o) (m_thrown := m_thrown) (m_taped := m_taped) (m_length := m_length) (m_out := m_out) (m_wide := m_wide) (m_gathered := g216) (m_sets := (m_sets + 1)) (m_ranges := r217) (m_nodes := m_nodes) (m_at := m_at) (m_flags := m_flags) (m_fault := m_fault) (m_place := m_place) (m_numbered := m_numbered) (m_depth := m_depth) (m_value := m_value) (m_isNot := m_isNot) (m_least0 := m_least0) (m_most0 := m_most0) (m_slot := m_slot) (m_work := m_work) (m_got := m_got) (m_rowMany := m_rowMany) (m_charAt := m_charAt) (m_charWide := m_charWide) (m_trail := m_trail) (m_isMatch := m_isMatch) (m_matchGroups := m_matchGroups) (m_allFrom := m_allFrom) (m_allBefore := m_allBefore) (m_founds := m_founds) (m_pieces := m_pieces) (m_writtenMany := m_writtenMany) (m_templateWide := m_templateWide) (m_tooMuch := m_tooMuch) (K := K) (O := O) (Fi := Fi) (Be := Be) (Z := Z) (SM := (zu SM m_sets (r217 - m_ranges))) (s := m_sets) (on := 1) h80 h90 h94 h95 h96 h97 h100 (by omega) (by omega) (rgs_zu jsm (by omega)) (by omega)) (fun oc G2 h => by rcases h with ⟨_, h, _⟩ <;> exact ⟨_, h⟩) (by omega) m_MO_setNode ml_MO_371 im_MO_setNode se_MO_setNode c_MO h80.2.2 (Nat.le_of_ble_eq_true rfl) d_MO_readCharacter_66 rfl ?_
      intro v G37 hq
      rcases hq with ⟨z238, hv, hfk, hlk, hsk, hN80, hN94, hN95, hN96, hN97, hN100, hq39⟩
      cases hv
      have h84 := hfk.get h84 (by decide)
      have h87 := hfk.get h87 (by decide)
      have h88 := hfk.get h88 (by decide)
      have h93 := hfk.get h93 (by decide)
      have h81 := hfk.get h81 (by decide)
      have h82 := hfk.get h82 (by decide)
      have h91 := hfk.get h91 (by decide)
      have h92 := hfk.get h92 (by decide)
      have h110 := hfk.get h110 (by decide)
      have h111 := hfk.get h111 (by decide)
      have h98 := hfk.get h98 (by decide)
      have h99 := hfk.get h99 (by decide)
      have h101 := hfk.get h101 (by decide)
      have h90 := hfk.get h90 (by decide)
      have h89 := hfk.get h89 (by decide)
      have h105 := hfk.get h105 (by decide)
      have h106 := hfk.get h106 (by decide)
      have h107 := hfk.get h107 (by decide)
      have h108 := hfk.get h108 (by decide)
      have h109 := hfk.get h109 (by decide)
      have h102 := hfk.get h102 (by decide)
      have h103 := hfk.get h103 (by decide)
      have h104 := hfk.get h104 (by decide)
      have hfr := hfr.tr hfk (by decide)
      have hlen := hlk.trans hlen
      have hsl := hsk.trans hsl
      have h80 := hN80
      have h94 := hN94
      have h95 := hN95
      have h96 := hN96
      have h97 := hN97
      have h100 := hN100
      change ab_W _ _ _ G37 69 [some (vR 80), some (vz c), some (vz m_sets), some (vz 1)] [vz m_nodes, vR 80] _
      have hsz_ : zu SM m_sets (r217 - m_ranges) m_sets = (r217 - m_ranges) := zu_self _ _ _
      have ptrI_0 : trI o G37 0 (m_nodes + 1) (m_sets + 1) (m_depth + 1) m_nodes 0 6 ((a1_, b1_, c1_, d1_, e1_) :: t1_) rp ls z238 (fun s => if s = m_sets then (clno 0 (fun x => (fun _ => False) x ∨ lkS v6 c c x)) else SV s) ((ao1_, ro1_) :: ts1_) ro vv (mnS (clno 0 (fun x => (fun _ => False) x ∨ lkS v6 c c x))) RL220 RH221 r217 0 0 := ⟨(zu K m_nodes 1), (zu O m_nodes m_sets), (zu Fi m_nodes (-1)), (zu Be m_nodes (-1)), Le, Mo, (zu Z m_nodes z238), LZ, (zu SM m_sets (r217 - m_ranges)), (zu SA m_sets m_ranges), QF, QL, AF, AL, SD, OA, OF, ON, h94, h95, h96, h97, h98, h99, h100, h101, h90, h89, h105, h106, h107, h108, h109, h102, h103, h104, (rgs_zu jk (by omega)), (rgs_zu jo (by omega)), (rgs_zu jfi (by omega)), (rgs_zu jbe (by omega)), jle, jmo, (rgs_zu jz (by omega)), jlz, (rgs_zu jsm (by omega)), (rgs_zu jsa (by omega)), jqf, jql, jaf, jal, jsd, joa, jof, jon, (rtk_leaf (rtk_ns (S := (clno 0 (fun x => (fun _ => False) x ∨ lkS v6 c c x))) jt) (by omega) (Or.inr (Or.inl ⟨rfl, by omega, by omega, by omega, by rw [zu_self]; omega⟩)) (Or.inr (Or.inl ⟨rfl, mnS_ns (SV := SV)⟩))), (by omega), (fun h => absurd h (by decide)), (fun h => absurd h (by decide)), (fun h => absurd h (by decide)), (fun h => absurd h (by decide)), (fun _ => by rw [zu_self]; decide), (fun h => absurd h (by decide)), (sas_s jss (by omega)), (svR_s jsv hq26.1 hq26.2 hq25 (by omega))⟩
      refine zz_iconst d_MO_readCharacter_69 ?_
      refine ab_callV (d' := d - 1) (as := [vz m_nodes, vz 1]) (st := []) (r := _) (z1_MO_part (o := o) (m_thrown := m_thrown) (m_taped := m_taped) (m_length := m_length) (m_out := m_out) (m_wide := m_wide) (m_gathered := g216) (m_sets := (m_sets + 1)) (m_ranges := r217) (m_nodes := (m_nodes + 1)) (m_at := m_at) (m_flags := m_flags) (m_fault := m_fault) (m_place := m_place) (m_numbered := m_numbered) (m_depth := m_depth) (m_value := m_value) (m_isNot := m_isNot) (m_least0 := m_least0) (m_most0 := m_most0) (m_slot := m_slot) (m_work := m_work) (m_got := m_got) (m_rowMany := m_rowMany) (m_charAt := m_charAt) (m_charWide := m_charWide) (m_trail := m_trail) (m_isMatch := m_isMatch) (m_matchGroups := m_matchGroups) (m_allFrom := m_allFrom) (m_allBefore := m_allBefore) (m_founds := m_founds) (m_pieces := m_pieces) (m_writtenMany := m_writtenMany) (m_templateWide := m_templateWide) (m_tooMuch := m_tooMuch) (x := m_nodes) (dh := 0) (rp := rp) (ls := ls) (dz := z238) (SV := (fun s => if s = m_sets then (clno 0 (fun x => (fun _ => False) x ∨ lkS v6 c c x)) else SV s)) (ro := ro) (vv := vv) (dv := (mnS (clno 0 (fun x => (fun _ => False) x ∨ lkS v6 c c x)))) (a1_ := a1_) (b1_ := b1_) (c1_ := c1_) (d1_ := d1_) (e1_ := e1_) (nu9 := 0) (fo9 := 0) (t1_ := t1_) (ao1_ := ao1_) (ro1_ := ro1_) (ts1_ := ts1_) (RL := RL220) (RH := RH221) h80 ptrI_0 (by omega) (by omega) (by omega) (by omega)) (fun oc G2 h => by rcases h with ⟨h, _⟩ <;> exact ⟨_, h⟩) (by omega) m_MO_part ml_MO_375 im_MO_part se_MO_part c_MO h80.2.2 (Nat.le_of_ble_eq_true rfl) d_MO_readCharacter_70 rfl ?_
      intro v G40 hq
      rcases hq with ⟨hv, hfk, hlk, hsk, pNtrI_0⟩
      cases hv
      have h80 := hfk.get h80 (by decide)
      have h84 := hfk.get h84 (by decide)
      have h87 := hfk.get h87 (by decide)
      have h88 := hfk.get h88 (by decide)
      have h93 := hfk.get h93 (by decide)
      have h81 := hfk.get h81 (by decide)
      have h82 := hfk.get h82 (by decide)
      have h91 := hfk.get h91 (by decide)
      have h92 := hfk.get h92 (by decide)
      have h110 := hfk.get h110 (by decide)
      have h111 := hfk.get h111 (by decide)
      have ptrI_0 := pNtrI_0
      have hfr := hfr.tr hfk (by decide)
      have hlen := hlk.trans hlen
      have hsl := hsk.trans hsl
      change ab_W _ _ _ G40 73 [some (vR 80), some (vz c), some (vz m_sets), some (vz 1)] [] _
      refine ab_vret rfl d_MO_readCharacter_73 ?_
      rw [hQ]; exact ⟨_, _, _, _, _, _, _, _, _, _, z238, _, _, _, _, _, (fun s => if s = m_sets then (clno 0 (fun x => (fun _ => False) x ∨ lkS v6 c c x)) else SV s), (mnS (clno 0 (fun x => (fun _ => False) x ∨ lkS v6 c c x))), rfl, hfr, hlen, hsl, h80, h87, h88, h93, h91, h92, h110, h111, ptrI_0, (by omega), (by first | exact hq13 | exact rgs_w hq13 (by omega)), (by first | exact hq22 | exact rgs_w hq22 (by omega)), (by first | exact hq23 | exact rgs_w hq23 (by omega)), (by rw [show m_flags % 2 = v6 by omega]; exact chz_of hq25 (by omega)), (by rw [show m_flags % 2 = v6 by omega]; exact chv_of)⟩
set_option maxRecDepth 100000 in
set_option maxHeartbeats 4000000 in
theorem z_MO_readDot {X : ab_X} {d : Nat} {o : Nat → Nat} {G : ab_G} {m_thrown : Int} {m_taped : Int} {m_length : Int} {m_out : Int} {m_wide : Int} {m_gathered : Int} {m_sets : Int} {m_ranges : Int} {m_nodes : Int} {m_at : Int} {m_flags : Int} {m_fault : Int} {m_place : Int} {m_numbered : Int} {m_depth : Int} {m_value : Int} {m_isNot : Int} {m_least0 : Int} {m_most0 : Int} {m_slot : Int} {m_work : Int} {m_got : Int} {m_rowMany : Int} {m_charAt : Int} {m_charWide : Int} {m_trail : Int} {m_isMatch : Int} {m_matchGroups : Int} {m_allFrom : Int} {m_allBefore : Int} {m_founds : Int} {m_pieces : Int} {m_writtenMany : Int} {m_templateWide : Int} {m_tooMuch : Int} {A_tape : Int → Int} {LO : Int → Int} {HI : Int → Int} {MK : Int → Int} {RL : Int → Int} {RH : Int → Int} {NS : Int → Int} {NM : Int → Int} {rp : Int} {ls : Int} {SV : Int → Int → Prop} {ro : Sn} {vv : Sn} {a1_ : Int} {b1_ : Int} {c1_ : Int} {d1_ : Int} {e1_ : Int} {t1_ : List Fr} {ao1_ : Option Sn} {ro1_ : Sn} {ts1_ : List Fs} (h80 : cc o G 80 280 (ab_ob 12 (mof m_thrown m_taped m_length m_out m_wide m_gathered m_sets m_ranges m_nodes m_at m_flags m_fault m_place m_numbered m_depth m_value m_isNot m_least0 m_most0 m_slot m_work m_got m_rowMany m_charAt m_charWide m_trail m_isMatch m_matchGroups m_allFrom m_allBefore m_founds m_pieces m_writtenMany m_templateWide m_tooMuch))) (h84 : cc o G 84 284 (za 2000 A_tape)) (h87 : cc o G 87 287 (za 9000 LO)) (h88 : cc o G 88 288 (za 9000 HI)) (h93 : cc o G 93 293 (zb 1200 MK)) (h81 : cc o G 81 281 (za 13 tbA)) (h82 : cc o G 82 282 (za 66 tbT)) (h91 : cc o G 91 291 (za 24000 RL)) (h92 : cc o G 92 292 (za 24000 RH)) (h110 : cc o G 110 310 (za 120 NS)) (h111 : cc o G 111 311 (za 10 NM)) (ptrI_0 : trI o G 0 m_nodes m_sets (m_depth + 1) (-1) 0 0 ((a1_, b1_, c1_, d1_, e1_) :: t1_) rp ls 0 SV ((ao1_, ro1_) :: ts1_) ro vv mnI RL RH m_ranges 0 0) (n18 : ab_n0 = 18) (cta : 0 ≤ m_taped ∧ m_taped ≤ 2000) (jtp : rgs A_tape 2000 0 255) (jmk : rgs MK 1200 0 1) (jrl : rgs RL 24000 0 1114111) (jrh : rgs RH 24000 0 1114111) (jns : rgs NS 120 0 255) (jnm : rgs NM 10 0 12) (cf : m_fault = 0) (cat : 0 ≤ m_at ∧ m_at < m_taped) (cpo : 0 ≤ m_nodes ∧ m_nodes + 2 * m_depth + 0 ≤ 2 * m_at ∧ 0 ≤ m_sets ∧ m_sets + 0 ≤ m_at ∧ 0 ≤ m_ranges ∧ m_ranges + 0 ≤ 12 * m_at ∧ 0 ≤ m_depth ∧ m_depth ≤ 30 ∧ 0 ≤ m_numbered ∧ m_numbered ≤ 9 ∧ -2147483648 ≤ m_flags ∧ m_flags ≤ 2147483647 ∧ -2147483648 ≤ m_value ∧ m_value ≤ 2147483647) (cfl : 0 ≤ m_flags ∧ m_flags ≤ 15) (hch : tpk A_tape m_taped m_at = 46) (hd : 5 ≤ d) : ab_F X d y_MO_readDot (.code y_MO_readDot b_MO_readDot 1 none) [vR 80] G (fun oc G2 => ∃ a2 : Int, ∃ g2 : Int, ∃ s2 : Int, ∃ r2 : Int, ∃ n2 : Int, ∃ v2 : Int, ∃ nt2 : Int, ∃ w2 : Int, ∃ f2 : Int, ∃ p2 : Int, ∃ z9 : Int, ∃ LO2 : Int → Int, ∃ HI2 : Int → Int, ∃ MK2 : Int → Int, ∃ RL2 : Int → Int, ∃ RH2 : Int → Int, ∃ SV2 : Int → Int → Prop, ∃ v9 : Sn, oc = .returned none ∧ fx o o [280, 287, 288, 293, 291, 292, 310, 311, 294, 295, 296, 297, 298, 299, 300, 301, 290, 289, 305, 306, 307, 308, 309, 302, 303, 304] G G2 ∧ G2.length = G.length ∧ ab_slots G2 = ab_slots G ∧ cc o G2 80 280 (ab_ob 12 (mof m_thrown m_taped m_length m_out w2 g2 s2 r2 n2 a2 m_flags f2 p2 m_numbered m_depth v2 nt2 m_least0 m_most0 m_slot m_work m_got m_rowMany m_charAt m_charWide m_trail m_isMatch m_matchGroups m_allFrom m_allBefore m_founds m_pieces m_writtenMany m_templateWide m_tooMuch)) ∧ cc o G2 87 287 (za 9000 LO2) ∧ cc o G2 88 288 (za 9000 HI2) ∧ cc o G2 93 293 (zb 1200 MK2) ∧ cc o G2 91 291 (za 24000 RL2) ∧ cc o G2 92 292 (za 24000 RH2) ∧ cc o G2 110 310 (za 120 NS) ∧ cc o G2 111 311 (za 10 NM) ∧ trI o G2 0 n2 s2 (m_depth + 1) (-1) 0 0 ((a1_, b1_, c1_, d1_, (e1_ + z9)) :: t1_) 1 z9 0 SV2 ((ao1_, (mnC ro1_ v9)) :: ts1_) ro1_ v9 mnI RL2 RH2 r2 0 0 ∧ (f2 = 0 ∧ p2 = m_place ∧ m_at < a2 ∧ 0 ≤ n2 ∧ n2 + 2 * m_depth ≤ 2 * a2 ∧ 0 ≤ s2 ∧ s2 ≤ a2 ∧ 0 ≤ r2 ∧ r2 ≤ 12 * a2 ∧ a2 ≤ m_taped ∧ -2147483648 ≤ v2 ∧ v2 ≤ 2147483647) ∧ (rgs MK2 1200 0 1) ∧ (rgs RL2 24000 0 1114111) ∧ (rgs RH2 24000 0 1114111) ∧ (lfR A_tape m_taped m_flags m_at z9 a2) ∧ (lfM A_tape m_taped m_flags m_at v9 a2)) := by
  refine ab_F_of (by decide +kernel) (Nat.le_of_ble_eq_true rfl) ?_
  obtain ⟨Q, hQ⟩ : ∃ z : Outcome → ab_G → Prop, z = (fun oc G2 => ∃ a2 : Int, ∃ g2 : Int, ∃ s2 : Int, ∃ r2 : Int, ∃ n2 : Int, ∃ v2 : Int, ∃ nt2 : Int, ∃ w2 : Int, ∃ f2 : Int, ∃ p2 : Int, ∃ z9 : Int, ∃ LO2 : Int → Int, ∃ HI2 : Int → Int, ∃ MK2 : Int → Int, ∃ RL2 : Int → Int, ∃ RH2 : Int → Int, ∃ SV2 : Int → Int → Prop, ∃ v9 : Sn, oc = .returned none ∧ fx o o [280, 287, 288, 293, 291, 292, 310, 311, 294, 295, 296, 297, 298, 299, 300, 301, 290, 289, 305, 306, 307, 308, 309, 302, 303, 304] G G2 ∧ G2.length = G.length ∧ ab_slots G2 = ab_slots G ∧ cc o G2 80 280 (ab_ob 12 (mof m_thrown m_taped m_length m_out w2 g2 s2 r2 n2 a2 m_flags f2 p2 m_numbered m_depth v2 nt2 m_least0 m_most0 m_slot m_work m_got m_rowMany m_charAt m_charWide m_trail m_isMatch m_matchGroups m_allFrom m_allBefore m_founds m_pieces m_writtenMany m_templateWide m_tooMuch)) ∧ cc o G2 87 287 (za 9000 LO2) ∧ cc o G2 88 288 (za 9000 HI2) ∧ cc o G2 93 293 (zb 1200 MK2) ∧ cc o G2 91 291 (za 24000 RL2) ∧ cc o G2 92 292 (za 24000 RH2) ∧ cc o G2 110 310 (za 120 NS) ∧ cc o G2 111 311 (za 10 NM) ∧ trI o G2 0 n2 s2 (m_depth + 1) (-1) 0 0 ((a1_, b1_, c1_, d1_, (e1_ + z9)) :: t1_) 1 z9 0 SV2 ((ao1_, (mnC ro1_ v9)) :: ts1_) ro1_ v9 mnI RL2 RH2 r2 0 0 ∧ (f2 = 0 ∧ p2 = m_place ∧ m_at < a2 ∧ 0 ≤ n2 ∧ n2 + 2 * m_depth ≤ 2 * a2 ∧ 0 ≤ s2 ∧ s2 ≤ a2 ∧ 0 ≤ r2 ∧ r2 ≤ 12 * a2 ∧ a2 ≤ m_taped ∧ -2147483648 ≤ v2 ∧ v2 ≤ 2147483647) ∧ (rgs MK2 1200 0 1) ∧ (rgs RL2 24000 0 1114111) ∧ (rgs RH2 24000 0 1114111) ∧ (lfR A_tape m_taped m_flags m_at z9 a2) ∧ (lfM A_tape m_taped m_flags m_at v9 a2)) := ⟨_, rfl⟩
  rw [← hQ]
  change ab_W X (ab_pl y_MO_readDot b_MO_readDot 1 none) d G 0 [some (vR 80)] [] Q
  have hfr : fx o o [280, 287, 288, 293, 291, 292, 310, 311, 294, 295, 296, 297, 298, 299, 300, 301, 290, 289, 305, 306, 307, 308, 309, 302, 303, 304] G G := fx.rf
  have hlen : G.length = G.length := rfl
  have hsl : ab_slots G = ab_slots G := rfl
  refine ab_aload_n d_MO_readDot_0 rfl ?_
  refine ab_callV (d' := d - 1) (as := []) (st := []) (r := _) (z_MO_begin (o := o) (m_thrown := m_thrown) (m_taped := m_taped) (m_length := m_length) (m_out := m_out) (m_wide := m_wide) (m_gathered := m_gathered) (m_sets := m_sets) (m_ranges := m_ranges) (m_nodes := m_nodes) (m_at := m_at) (m_flags := m_flags) (m_fault := m_fault) (m_place := m_place) (m_numbered := m_numbered) (m_depth := m_depth) (m_value := m_value) (m_isNot := m_isNot) (m_least0 := m_least0) (m_most0 := m_most0) (m_slot := m_slot) (m_work := m_work) (m_got := m_got) (m_rowMany := m_rowMany) (m_charAt := m_charAt) (m_charWide := m_charWide) (m_trail := m_trail) (m_isMatch := m_isMatch) (m_matchGroups := m_matchGroups) (m_allFrom := m_allFrom) (m_allBefore := m_allBefore) (m_founds := m_founds) (m_pieces := m_pieces) (m_writtenMany := m_writtenMany) (m_templateWide := m_templateWide) (m_tooMuch := m_tooMuch) (LO := LO) (HI := HI) (MK := MK) h80 h93 h87 h88 (by omega) jmk (by omega)) (fun oc G2 h => by rcases h with ⟨_, h, _⟩ <;> exact ⟨_, h⟩) (by omega) m_MO_begin ml_MO_362 im_MO_begin se_MO_begin c_MO h80.2.2 (Nat.le_of_ble_eq_true rfl) d_MO_readDot_1 rfl ?_
  intro v G1 hq
  rcases hq with ⟨MK22, hv, hfk, hlk, hsk, hN80, hN93, hq3, hq4⟩
  cases hv
  have h84 := hfk.get h84 (by decide)
  have h87 := hfk.get h87 (by decide)
  have h88 := hfk.get h88 (by decide)
  have h81 := hfk.get h81 (by decide)
  have h82 := hfk.get h82 (by decide)
  have h91 := hfk.get h91 (by decide)
  have h92 := hfk.get h92 (by decide)
  have h110 := hfk.get h110 (by decide)
  have h111 := hfk.get h111 (by decide)
  have ptrI_0 := trI.fr hfk ptrI_0 (by decide) (by decide) (by decide) (by decide) (by decide) (by decide) (by decide) (by decide) (by decide) (by decide) (by decide) (by decide) (by decide) (by decide) (by decide) (by decide) (by decide) (by decide)
  have hfr := hfr.tr hfk (by decide)
  have hlen := hlk.trans hlen
  have hsl := hsk.trans hsl
  have h80 := hN80
  have h93 := hN93
  change ab_W _ _ _ G1 4 [some (vR 80)] [] _
  obtain ⟨K, O, Fi, Be, Le, Mo, Z, LZ, SM, SA, QF, QL, AF, AL, SD, OA, OF, ON, h94, h95, h96, h97, h98, h99, h100, h101, h90, h89, h105, h106, h107, h108, h109, h102, h103, h104, jk, jo, jfi, jbe, jle, jmo, jz, jlz, jsm, jsa, jqf, jql, jaf, jal, jsd, joa, jof, jon, jt, cnd, cre, crs, crz, ck5, ck6, ck7, jss, jsv⟩ := ptrI_0
  refine ab_aload_n d_MO_readDot_4 rfl ?_
  refine zz_iconst d_MO_readDot_5 ?_
  refine ab_callV (d' := d - 1) (as := [vz 4]) (st := []) (r := _) (z4_MO_has (o := o) (m_thrown := m_thrown) (m_taped := m_taped) (m_length := m_length) (m_out := m_out) (m_wide := m_wide) (m_gathered := 0) (m_sets := m_sets) (m_ranges := m_ranges) (m_nodes := m_nodes) (m_at := m_at) (m_flags := m_flags) (m_fault := m_fault) (m_place := m_place) (m_numbered := m_numbered) (m_depth := m_depth) (m_value := m_value) (m_isNot := m_isNot) (m_least0 := m_least0) (m_most0 := m_most0) (m_slot := m_slot) (m_work := m_work) (m_got := m_got) (m_rowMany := m_rowMany) (m_charAt := m_charAt) (m_charWide := m_charWide) (m_trail := m_trail) (m_isMatch := m_isMatch) (m_matchGroups := m_matchGroups) (m_allFrom := m_allFrom) (m_allBefore := m_allBefore) (m_founds := m_founds) (m_pieces := m_pieces) (m_writtenMany := m_writtenMany) (m_templateWide := m_templateWide) (m_tooMuch := m_tooMuch) h80 (by omega)) (fun oc G2 h => by rcases h with ⟨_, h, _⟩ <;> exact ⟨_, h⟩) (by omega) m_MO_has ml_MO_355 im_MO_has se_MO_has c_MO h80.2.2 (Nat.le_of_ble_eq_true rfl) d_MO_readDot_6 rfl ?_
  intro v G5 hq
  rcases hq with ⟨v6, hv, hGe, hq7, hq8⟩
  cases hv
  rw [hGe]
  change ab_W _ _ _ G1 9 [some (vR 80)] [vz v6] _
  refine zz_if_ne (tgt := 20) d_MO_readDot_9 (by decide) (by omega) (fun c9 => ?_) (fun c9 => ?_)
  · refine ab_aload_n d_MO_readDot_20 rfl ?_
    refine ab_aload_n d_MO_readDot_21 rfl ?_
    refine ab_aload_n d_MO_readDot_22 rfl ?_
    refine zz_iconst d_MO_readDot_23 ?_
    refine ab_callV (d' := d - 1) (as := [vz 1]) (st := [vR 80, vR 80]) (r := _) (z_MO_close (o := o) (m_thrown := m_thrown) (m_taped := m_taped) (m_length := m_length) (m_out := m_out) (m_wide := m_wide) (m_gathered := 0) (m_sets := m_sets) (m_ranges := m_ranges) (m_nodes := m_nodes) (m_at := m_at) (m_flags := m_flags) (m_fault := m_fault) (m_place := m_place) (m_numbered := m_numbered) (m_depth := m_depth) (m_value := m_value) (m_isNot := m_isNot) (m_least0 := m_least0) (m_most0 := m_most0) (m_slot := m_slot) (m_work := m_work) (m_got := m_got) (m_rowMany := m_rowMany) (m_charAt := m_charAt) (m_charWide := m_charWide) (m_trail := m_trail) (m_isMatch := m_isMatch) (m_matchGroups := m_matchGroups) (m_allFrom := m_allFrom) (m_allBefore := m_allBefore) (m_founds := m_founds) (m_pieces := m_pieces) (m_writtenMany := m_writtenMany) (m_templateWide := m_templateWide) (m_tooMuch := m_tooMuch) (LO := LO) (HI := HI) (MK := MK22) (RL := RL) (RH := RH) (SA := SA) (SM := SM) (P := (fun _ => False)) (nt := 1) (mm := 0) h80 h87 h88 h93 h91 h92 h89 h90 (by omega) hq3 (by omega) hq4 (lfc_w (lfc_0 (fun _ h => h)) (by decide)) jrl jrh (by omega)) (fun oc G2 h => by rcases h with ⟨_, _, _, _, _, _, h, _⟩ <;> exact ⟨_, h⟩) (by omega) m_MO_close ml_MO_368 im_MO_close se_MO_close c_MO h80.2.2 (Nat.le_of_ble_eq_true rfl) d_MO_readDot_24 rfl ?_
    intro v G10 hq
    rcases hq with ⟨g211, r212, LO213, HI214, RL215, RH216, hv, hfk, hlk, hsk, hN80, hN87, hN88, hN91, hN92, hN89, hN90, hq17, hq18, hq19, hq20, hq21⟩
    cases hv
    have h84 := hfk.get h84 (by decide)
    have h93 := hfk.get h93 (by decide)
    have h81 := hfk.get h81 (by decide)
    have h82 := hfk.get h82 (by decide)
    have h110 := hfk.get h110 (by decide)
    have h111 := hfk.get h111 (by decide)
    have h94 := hfk.get h94 (by decide)
    have h95 := hfk.get h95 (by decide)
    have h96 := hfk.get h96 (by decide)
    have h97 := hfk.get h97 (by decide)
    have h98 := hfk.get h98 (by decide)
    have h99 := hfk.get h99 (by decide)
    have h100 := hfk.get h100 (by decide)
    have h101 := hfk.get h101 (by decide)
    have h105 := hfk.get h105 (by decide)
    have h106 := hfk.get h106 (by decide)
    have h107 := hfk.get h107 (by decide)
    have h108 := hfk.get h108 (by decide)
    have h109 := hfk.get h109 (by decide)
    have h102 := hfk.get h102 (by decide)
    have h103 := hfk.get h103 (by decide)
    have h104 := hfk.get h104 (by decide)
    have hfr := hfr.tr hfk (by decide)
    have hlen := hlk.trans hlen
    have hsl := hsk.trans hsl
    have h80 := hN80
    have h87 := hN87
    have h88 := hN88
    have h91 := hN91
    have h92 := hN92
    have h89 := hN89
    have h90 := hN90
    change ab_W _ _ _ G10 27 [some (vR 80)] [vz m_sets, vR 80, vR 80] _
    refine zz_iconst d_MO_readDot_27 ?_
    refine ab_callV (d' := d - 1) (as := [vz m_sets, vz 0]) (st := [vR 80]) (r := _) (z_MO_setNode (o := o) (m_thrown := m_thrown) (m_taped := m_taped) (m_length := m_length) (m_out := m_out) (m_wide := m_wide) (m_gathered := g211) (m_sets := (m_sets + 1)) (m_ranges := r212) (m_nodes := m_nodes) (m_at := m_at) (m_flags := m_flags) (m_fault := m_fault) (m_place := m_place) (m_numbered := m_numbered) (m_depth := m_depth) (m_value := m_value) (m_isNot := m_isNot) (m_least0 := m_least0) (m_most0 := m_most0) (m_slot := m_slot) (m_work := m_work) (m_got := m_got) (m_rowMany := m_rowMany) (m_charAt := m_charAt) (m_charWide := m_charWide) (m_trail := m_trail) (m_isMatch := m_isMatch) (m_matchGroups := m_matchGroups) (m_allFrom := m_allFrom) (m_allBefore := m_allBefore) (m_founds := m_founds) (m_pieces := m_pieces) (m_writtenMany := m_writtenMany) (m_templateWide := m_templateWide) (m_tooMuch := m_tooMuch) (K := K) (O := O) (Fi := Fi) (Be := Be) (Z := Z) (SM := (zu SM m_sets (r212 - m_ranges))) (s := m_sets) (on := 0) h80 h90 h94 h95 h96 h97 h100 (by omega) (by omega) (rgs_zu jsm (by omega)) (by omega)) (fun oc G2 h => by rcases h with ⟨_, h, _⟩ <;> exact ⟨_, h⟩) (by omega) m_MO_setNode ml_MO_371 im_MO_setNode se_MO_setNode c_MO h80.2.2 (Nat.le_of_ble_eq_true rfl) d_MO_readDot_28 rfl ?_
    intro v G22 hq
    rcases hq with ⟨z223, hv, hfk, hlk, hsk, hN80, hN94, hN95, hN96, hN97, hN100, hq24⟩
    cases hv
    have h84 := hfk.get h84 (by decide)
    have h87 := hfk.get h87 (by decide)
    have h88 := hfk.get h88 (by decide)
    have h93 := hfk.get h93 (by decide)
    have h81 := hfk.get h81 (by decide)
    have h82 := hfk.get h82 (by decide)
    have h91 := hfk.get h91 (by decide)
    have h92 := hfk.get h92 (by decide)
    have h110 := hfk.get h110 (by decide)
    have h111 := hfk.get h111 (by decide)
    have h98 := hfk.get h98 (by decide)
    have h99 := hfk.get h99 (by decide)
    have h101 := hfk.get h101 (by decide)
    have h90 := hfk.get h90 (by decide)
    have h89 := hfk.get h89 (by decide)
    have h105 := hfk.get h105 (by decide)
    have h106 := hfk.get h106 (by decide)
    have h107 := hfk.get h107 (by decide)
    have h108 := hfk.get h108 (by decide)
    have h109 := hfk.get h109 (by decide)
    have h102 := hfk.get h102 (by decide)
    have h103 := hfk.get h103 (by decide)
    have h104 := hfk.get h104 (by decide)
    have hfr := hfr.tr hfk (by decide)
    have hlen := hlk.trans hlen
    have hsl := hsk.trans hsl
    have h80 := hN80
    have h94 := hN94
    have h95 := hN95
    have h96 := hN96
    have h97 := hN97
    have h100 := hN100
    change ab_W _ _ _ G22 31 [some (vR 80)] [vz m_nodes, vR 80] _
    have hsz_ : zu SM m_sets (r212 - m_ranges) m_sets = (r212 - m_ranges) := zu_self _ _ _
    have ptrI_0 : trI o G22 0 (m_nodes + 1) (m_sets + 1) (m_depth + 1) m_nodes 0 6 ((a1_, b1_, c1_, d1_, e1_) :: t1_) rp ls z223 (fun s => if s = m_sets then (clno 1 (fun _ => False)) else SV s) ((ao1_, ro1_) :: ts1_) ro vv (mnS (clno 1 (fun _ => False))) RL215 RH216 r212 0 0 := ⟨(zu K m_nodes 1), (zu O m_nodes m_sets), (zu Fi m_nodes (-1)), (zu Be m_nodes (-1)), Le, Mo, (zu Z m_nodes z223), LZ, (zu SM m_sets (r212 - m_ranges)), (zu SA m_sets m_ranges), QF, QL, AF, AL, SD, OA, OF, ON, h94, h95, h96, h97, h98, h99, h100, h101, h90, h89, h105, h106, h107, h108, h109, h102, h103, h104, (rgs_zu jk (by omega)), (rgs_zu jo (by omega)), (rgs_zu jfi (by omega)), (rgs_zu jbe (by omega)), jle, jmo, (rgs_zu jz (by omega)), jlz, (rgs_zu jsm (by omega)), (rgs_zu jsa (by omega)), jqf, jql, jaf, jal, jsd, joa, jof, jon, (rtk_leaf (rtk_ns (S := (clno 1 (fun _ => False))) jt) (by omega) (Or.inr (Or.inl ⟨rfl, by omega, by omega, by omega, by rw [zu_self]; omega⟩)) (Or.inr (Or.inl ⟨rfl, mnS_ns (SV := SV)⟩))), (by omega), (fun h => absurd h (by decide)), (fun h => absurd h (by decide)), (fun h => absurd h (by decide)), (fun h => absurd h (by decide)), (fun _ => by rw [zu_self]; decide), (fun h => absurd h (by decide)), (sas_s jss (by omega)), (svR_s jsv hq21.1 hq21.2 hq20 (by omega))⟩
    refine zz_iconst d_MO_readDot_31 ?_
    refine ab_callV (d' := d - 1) (as := [vz m_nodes, vz 1]) (st := []) (r := _) (z1_MO_part (o := o) (m_thrown := m_thrown) (m_taped := m_taped) (m_length := m_length) (m_out := m_out) (m_wide := m_wide) (m_gathered := g211) (m_sets := (m_sets + 1)) (m_ranges := r212) (m_nodes := (m_nodes + 1)) (m_at := m_at) (m_flags := m_flags) (m_fault := m_fault) (m_place := m_place) (m_numbered := m_numbered) (m_depth := m_depth) (m_value := m_value) (m_isNot := m_isNot) (m_least0 := m_least0) (m_most0 := m_most0) (m_slot := m_slot) (m_work := m_work) (m_got := m_got) (m_rowMany := m_rowMany) (m_charAt := m_charAt) (m_charWide := m_charWide) (m_trail := m_trail) (m_isMatch := m_isMatch) (m_matchGroups := m_matchGroups) (m_allFrom := m_allFrom) (m_allBefore := m_allBefore) (m_founds := m_founds) (m_pieces := m_pieces) (m_writtenMany := m_writtenMany) (m_templateWide := m_templateWide) (m_tooMuch := m_tooMuch) (x := m_nodes) (dh := 0) (rp := rp) (ls := ls) (dz := z223) (SV := (fun s => if s = m_sets then (clno 1 (fun _ => False)) else SV s)) (ro := ro) (vv := vv) (dv := (mnS (clno 1 (fun _ => False)))) (a1_ := a1_) (b1_ := b1_) (c1_ := c1_) (d1_ := d1_) (e1_ := e1_) (nu9 := 0) (fo9 := 0) (t1_ := t1_) (ao1_ := ao1_) (ro1_ := ro1_) (ts1_ := ts1_) (RL := RL215) (RH := RH216) h80 ptrI_0 (by omega) (by omega) (by omega) (by omega)) (fun oc G2 h => by rcases h with ⟨h, _⟩ <;> exact ⟨_, h⟩) (by omega) m_MO_part ml_MO_375 im_MO_part se_MO_part c_MO h80.2.2 (Nat.le_of_ble_eq_true rfl) d_MO_readDot_32 rfl ?_
    intro v G25 hq
    rcases hq with ⟨hv, hfk, hlk, hsk, pNtrI_0⟩
    cases hv
    have h80 := hfk.get h80 (by decide)
    have h84 := hfk.get h84 (by decide)
    have h87 := hfk.get h87 (by decide)
    have h88 := hfk.get h88 (by decide)
    have h93 := hfk.get h93 (by decide)
    have h81 := hfk.get h81 (by decide)
    have h82 := hfk.get h82 (by decide)
    have h91 := hfk.get h91 (by decide)
    have h92 := hfk.get h92 (by decide)
    have h110 := hfk.get h110 (by decide)
    have h111 := hfk.get h111 (by decide)
    have ptrI_0 := pNtrI_0
    have hfr := hfr.tr hfk (by decide)
    have hlen := hlk.trans hlen
    have hsl := hsk.trans hsl
    change ab_W _ _ _ G25 35 [some (vR 80)] [] _
    refine ab_aload_n d_MO_readDot_35 rfl ?_
    refine ab_dup d_MO_readDot_36 rfl ?_
    refine ab_getf (fs := mof m_thrown m_taped m_length m_out m_wide g211 (m_sets + 1) r212 (m_nodes + 1) m_at m_flags m_fault m_place m_numbered m_depth m_value m_isNot m_least0 m_most0 m_slot m_work m_got m_rowMany m_charAt m_charWide m_trail m_isMatch m_matchGroups m_allFrom m_allBefore m_founds m_pieces m_writtenMany m_templateWide m_tooMuch) f_MO_279 d_MO_readDot_37 h80.2.2 rfl ?_
    refine zz_iconst d_MO_readDot_40 ?_
    refine zz_iadd d_MO_readDot_41 ?_
    refine ab_putf (fs := mof m_thrown m_taped m_length m_out m_wide g211 (m_sets + 1) r212 (m_nodes + 1) m_at m_flags m_fault m_place m_numbered m_depth m_value m_isNot m_least0 m_most0 m_slot m_work m_got m_rowMany m_charAt m_charWide m_trail m_isMatch m_matchGroups m_allFrom m_allBefore m_founds m_pieces m_writtenMany m_templateWide m_tooMuch) f_MO_279 (Or.inl rfl) d_MO_readDot_42 h80.2.2 (Nat.le_of_ble_eq_true rfl) (fun _ => ⟨rfl, rfl⟩) (h80.2.1 (by decide)) ?_
    obtain ⟨G26, eG26⟩ : ∃ z : ab_G, z = List.set G25 80 (ab_ob 12 (mof m_thrown m_taped m_length m_out m_wide g211 (m_sets + 1) r212 (m_nodes + 1) (m_at + 1) m_flags m_fault m_place m_numbered m_depth m_value m_isNot m_least0 m_most0 m_slot m_work m_got m_rowMany m_charAt m_charWide m_trail m_isMatch m_matchGroups m_allFrom m_allBefore m_founds m_pieces m_writtenMany m_templateWide m_tooMuch)) := ⟨_, rfl⟩
    have h84 := h84.keep h80 eG26 (by decide)
    have h87 := h87.keep h80 eG26 (by decide)
    have h88 := h88.keep h80 eG26 (by decide)
    have h93 := h93.keep h80 eG26 (by decide)
    have h81 := h81.keep h80 eG26 (by decide)
    have h82 := h82.keep h80 eG26 (by decide)
    have h91 := h91.keep h80 eG26 (by decide)
    have h92 := h92.keep h80 eG26 (by decide)
    have h110 := h110.keep h80 eG26 (by decide)
    have h111 := h111.keep h80 eG26 (by decide)
    have hst := (fx.rf (o := o) (S := [280]) (G := G25)).wr h80 eG26 (List.mem_singleton.mpr rfl)
    have ptrI_0 := trI.fr hst ptrI_0 (by decide) (by decide) (by decide) (by decide) (by decide) (by decide) (by decide) (by decide) (by decide) (by decide) (by decide) (by decide) (by decide) (by decide) (by decide) (by decide) (by decide) (by decide)
    have hlen := (z_len eG26).trans hlen
    have hsl := (z_sl h80 eG26 rfl).trans hsl
    have hfr := hfr.wr h80 eG26 (by decide)
    have h80 := h80.kept eG26
    change ab_W _ _ _ (List.set G25 80 (ab_ob 12 (mof m_thrown m_taped m_length m_out m_wide g211 (m_sets + 1) r212 (m_nodes + 1) (m_at + 1) m_flags m_fault m_place m_numbered m_depth m_value m_isNot m_least0 m_most0 m_slot m_work m_got m_rowMany m_charAt m_charWide m_trail m_isMatch m_matchGroups m_allFrom m_allBefore m_founds m_pieces m_writtenMany m_templateWide m_tooMuch))) 45 [some (vR 80)] [] _
    rw [← eG26]
    refine ab_vret rfl d_MO_readDot_45 ?_
    rw [hQ]; exact ⟨_, _, _, _, _, _, _, _, _, _, z223, _, _, _, _, _, (fun s => if s = m_sets then (clno 1 (fun _ => False)) else SV s), (mnS (clno 1 (fun _ => False))), rfl, hfr, hlen, hsl, h80, h87, h88, h93, h91, h92, h110, h111, ptrI_0, (by omega), (by first | exact hq3 | exact rgs_w hq3 (by omega)), (by first | exact hq17 | exact rgs_w hq17 (by omega)), (by first | exact hq18 | exact rgs_w hq18 (by omega)), (by have t_ := dot_0 hq20 (s := z223) (by omega); exact Or.inr (Or.inr (Or.inr (Or.inl ⟨by omega, by omega, by omega⟩)))), (by exact Or.inr (Or.inr (Or.inr (Or.inl ⟨by omega, by omega, dtv_0 (by omega)⟩))))⟩
  · refine ab_aload_n d_MO_readDot_12 rfl ?_
    refine zz_bipush d_MO_readDot_13 (by decide) ?_
    refine zz_bipush d_MO_readDot_15 (by decide) ?_
    refine ab_callV (d' := d - 1) (as := [vz 10, vz 10]) (st := []) (r := _) (z_MO_gather (o := o) (m_thrown := m_thrown) (m_taped := m_taped) (m_length := m_length) (m_out := m_out) (m_wide := m_wide) (m_gathered := 0) (m_sets := m_sets) (m_ranges := m_ranges) (m_nodes := m_nodes) (m_at := m_at) (m_flags := m_flags) (m_fault := m_fault) (m_place := m_place) (m_numbered := m_numbered) (m_depth := m_depth) (m_value := m_value) (m_isNot := m_isNot) (m_least0 := m_least0) (m_most0 := m_most0) (m_slot := m_slot) (m_work := m_work) (m_got := m_got) (m_rowMany := m_rowMany) (m_charAt := m_charAt) (m_charWide := m_charWide) (m_trail := m_trail) (m_isMatch := m_isMatch) (m_matchGroups := m_matchGroups) (m_allFrom := m_allFrom) (m_allBefore := m_allBefore) (m_founds := m_founds) (m_pieces := m_pieces) (m_writtenMany := m_writtenMany) (m_templateWide := m_templateWide) (m_tooMuch := m_tooMuch) (LO := LO) (HI := HI) (a := 10) (b := 10) h80 h87 h88 (by omega) (by omega)) (fun oc G2 h => by rcases h with ⟨h, _⟩ <;> exact ⟨_, h⟩) (by omega) m_MO_gather ml_MO_240 im_MO_gather se_MO_gather c_MO h80.2.2 (Nat.le_of_ble_eq_true rfl) d_MO_readDot_17 rfl ?_
    intro v G27 hq
    rcases hq with ⟨hv, hfk, hlk, hsk, hN80, hN87, hN88⟩
    cases hv
    have h84 := hfk.get h84 (by decide)
    have h93 := hfk.get h93 (by decide)
    have h81 := hfk.get h81 (by decide)
    have h82 := hfk.get h82 (by decide)
    have h91 := hfk.get h91 (by decide)
    have h92 := hfk.get h92 (by decide)
    have h110 := hfk.get h110 (by decide)
    have h111 := hfk.get h111 (by decide)
    have h94 := hfk.get h94 (by decide)
    have h95 := hfk.get h95 (by decide)
    have h96 := hfk.get h96 (by decide)
    have h97 := hfk.get h97 (by decide)
    have h98 := hfk.get h98 (by decide)
    have h99 := hfk.get h99 (by decide)
    have h100 := hfk.get h100 (by decide)
    have h101 := hfk.get h101 (by decide)
    have h90 := hfk.get h90 (by decide)
    have h89 := hfk.get h89 (by decide)
    have h105 := hfk.get h105 (by decide)
    have h106 := hfk.get h106 (by decide)
    have h107 := hfk.get h107 (by decide)
    have h108 := hfk.get h108 (by decide)
    have h109 := hfk.get h109 (by decide)
    have h102 := hfk.get h102 (by decide)
    have h103 := hfk.get h103 (by decide)
    have h104 := hfk.get h104 (by decide)
    have hfr := hfr.tr hfk (by decide)
    have hlen := hlk.trans hlen
    have hsl := hsk.trans hsl
    have h80 := hN80
    have h87 := hN87
    have h88 := hN88
    change ab_W _ _ _ G27 20 [some (vR 80)] [] _
    refine ab_aload_n d_MO_readDot_20 rfl ?_
    refine ab_aload_n d_MO_readDot_21 rfl ?_
    refine ab_aload_n d_MO_readDot_22 rfl ?_
    refine zz_iconst d_MO_readDot_23 ?_
    refine ab_callV (d' := d - 1) (as := [vz 1]) (st := [vR 80, vR 80]) (r := _) (z_MO_close (o := o) (m_thrown := m_thrown) (m_taped := m_taped) (m_length := m_length) (m_out := m_out) (m_wide := m_wide) (m_gathered := (0 + 1)) (m_sets := m_sets) (m_ranges := m_ranges) (m_nodes := m_nodes) (m_at := m_at) (m_flags := m_flags) (m_fault := m_fault) (m_place := m_place) (m_numbered := m_numbered) (m_depth := m_depth) (m_value := m_value) (m_isNot := m_isNot) (m_least0 := m_least0) (m_most0 := m_most0) (m_slot := m_slot) (m_work := m_work) (m_got := m_got) (m_rowMany := m_rowMany) (m_charAt := m_charAt) (m_charWide := m_charWide) (m_trail := m_trail) (m_isMatch := m_isMatch) (m_matchGroups := m_matchGroups) (m_allFrom := m_allFrom) (m_allBefore := m_allBefore) (m_founds := m_founds) (m_pieces := m_pieces) (m_writtenMany := m_writtenMany) (m_templateWide := m_templateWide) (m_tooMuch := m_tooMuch) (LO := (zu LO 0 10)) (HI := (zu HI 0 10)) (MK := MK22) (RL := RL) (RH := RH) (SA := SA) (SM := SM) (P := (fun x => (fun _ => False) x ∨ (10 ≤ x ∧ x ≤ 10))) (nt := 1) (mm := (0 + 1)) h80 h87 h88 h93 h91 h92 h89 h90 (by omega) hq3 (by omega) (clsI_g hq4 (by omega) (by omega)) (lfc_or (lfc_0 (fun _ h => h)) (lfc_iv 10 10)) jrl jrh (by omega)) (fun oc G2 h => by rcases h with ⟨_, _, _, _, _, _, h, _⟩ <;> exact ⟨_, h⟩) (by omega) m_MO_close ml_MO_368 im_MO_close se_MO_close c_MO h80.2.2 (Nat.le_of_ble_eq_true rfl) d_MO_readDot_24 rfl ?_
    intro v G28 hq
    rcases hq with ⟨g229, r230, LO231, HI232, RL233, RH234, hv, hfk, hlk, hsk, hN80, hN87, hN88, hN91, hN92, hN89, hN90, hq35, hq36, hq37, hq38, hq39⟩
    cases hv
    have h84 := hfk.get h84 (by decide)
    have h93 := hfk.get h93 (by decide)
    have h81 := hfk.get h81 (by decide)
    have h82 := hfk.get h82 (by decide)
    have h110 := hfk.get h110 (by decide)
    have h111 := hfk.get h111 (by decide)
    have h94 := hfk.get h94 (by decide)
    have h95 := hfk.get h95 (by decide)
    have h96 := hfk.get h96 (by decide)
    have h97 := hfk.get h97 (by decide)
    have h98 := hfk.get h98 (by decide)
    have h99 := hfk.get h99 (by decide)
    have h100 := hfk.get h100 (by decide)
    have h101 := hfk.get h101 (by decide)
    have h105 := hfk.get h105 (by decide)
    have h106 := hfk.get h106 (by decide)
    have h107 := hfk.get h107 (by decide)
    have h108 := hfk.get h108 (by decide)
    have h109 := hfk.get h109 (by decide)
    have h102 := hfk.get h102 (by decide)
    have h103 := hfk.get h103 (by decide)
    have h104 := hfk.get h104 (by decide)
    have hfr := hfr.tr hfk (by decide)
    have hlen := hlk.trans hlen
    have hsl := hsk.trans hsl
    have h80 := hN80
    have h87 := hN87
    have h88 := hN88
    have h91 := hN91
    have h92 := hN92
    have h89 := hN89
    have h90 := hN90
    change ab_W _ _ _ G28 27 [some (vR 80)] [vz m_sets, vR 80, vR 80] _
    refine zz_iconst d_MO_readDot_27 ?_
    refine ab_callV (d' := d - 1) (as := [vz m_sets, vz 0]) (st := [vR 80]) (r := _) (z_MO_setNode (o := o) (m_thrown := m_thrown) (m_taped := m_taped) (m_length := m_length) (m_out := m_out) (m_wide := m_wide) (m_gathered := g229) (m_sets := (m_sets + 1)) (m_ranges := r230) (m_nodes := m_nodes) (m_at := m_at) (m_flags := m_flags) (m_fault := m_fault) (m_place := m_place) (m_numbered := m_numbered) (m_depth := m_depth) (m_value := m_value) (m_isNot := m_isNot) (m_least0 := m_least0) (m_most0 := m_most0) (m_slot := m_slot) (m_work := m_work) (m_got := m_got) (m_rowMany := m_rowMany) (m_charAt := m_charAt) (m_charWide := m_charWide) (m_trail := m_trail) (m_isMatch := m_isMatch) (m_matchGroups := m_matchGroups) (m_allFrom := m_allFrom) (m_allBefore := m_allBefore) (m_founds := m_founds) (m_pieces := m_pieces) (m_writtenMany := m_writtenMany) (m_templateWide := m_templateWide) (m_tooMuch := m_tooMuch) (K := K) (O := O) (Fi := Fi) (Be := Be) (Z := Z) (SM := (zu SM m_sets (r230 - m_ranges))) (s := m_sets) (on := 0) h80 h90 h94 h95 h96 h97 h100 (by omega) (by omega) (rgs_zu jsm (by omega)) (by omega)) (fun oc G2 h => by rcases h with ⟨_, h, _⟩ <;> exact ⟨_, h⟩) (by omega) m_MO_setNode ml_MO_371 im_MO_setNode se_MO_setNode c_MO h80.2.2 (Nat.le_of_ble_eq_true rfl) d_MO_readDot_28 rfl ?_
    intro v G40 hq
    rcases hq with ⟨z241, hv, hfk, hlk, hsk, hN80, hN94, hN95, hN96, hN97, hN100, hq42⟩
    cases hv
    have h84 := hfk.get h84 (by decide)
    have h87 := hfk.get h87 (by decide)
    have h88 := hfk.get h88 (by decide)
    have h93 := hfk.get h93 (by decide)
    have h81 := hfk.get h81 (by decide)
    have h82 := hfk.get h82 (by decide)
    have h91 := hfk.get h91 (by decide)
    have h92 := hfk.get h92 (by decide)
    have h110 := hfk.get h110 (by decide)
    have h111 := hfk.get h111 (by decide)
    have h98 := hfk.get h98 (by decide)
    have h99 := hfk.get h99 (by decide)
    have h101 := hfk.get h101 (by decide)
    have h90 := hfk.get h90 (by decide)
    have h89 := hfk.get h89 (by decide)
    have h105 := hfk.get h105 (by decide)
    have h106 := hfk.get h106 (by decide)
    have h107 := hfk.get h107 (by decide)
    have h108 := hfk.get h108 (by decide)
    have h109 := hfk.get h109 (by decide)
    have h102 := hfk.get h102 (by decide)
    have h103 := hfk.get h103 (by decide)
    have h104 := hfk.get h104 (by decide)
    have hfr := hfr.tr hfk (by decide)
    have hlen := hlk.trans hlen
    have hsl := hsk.trans hsl
    have h80 := hN80
    have h94 := hN94
    have h95 := hN95
    have h96 := hN96
    have h97 := hN97
    have h100 := hN100
    change ab_W _ _ _ G40 31 [some (vR 80)] [vz m_nodes, vR 80] _
    have hsz_ : zu SM m_sets (r230 - m_ranges) m_sets = (r230 - m_ranges) := zu_self _ _ _
    have ptrI_0 : trI o G40 0 (m_nodes + 1) (m_sets + 1) (m_depth + 1) m_nodes 0 6 ((a1_, b1_, c1_, d1_, e1_) :: t1_) rp ls z241 (fun s => if s = m_sets then (clno 1 (fun x => (fun _ => False) x ∨ (10 ≤ x ∧ x ≤ 10))) else SV s) ((ao1_, ro1_) :: ts1_) ro vv (mnS (clno 1 (fun x => (fun _ => False) x ∨ (10 ≤ x ∧ x ≤ 10)))) RL233 RH234 r230 0 0 := ⟨(zu K m_nodes 1), (zu O m_nodes m_sets), (zu Fi m_nodes (-1)), (zu Be m_nodes (-1)), Le, Mo, (zu Z m_nodes z241), LZ, (zu SM m_sets (r230 - m_ranges)), (zu SA m_sets m_ranges), QF, QL, AF, AL, SD, OA, OF, ON, h94, h95, h96, h97, h98, h99, h100, h101, h90, h89, h105, h106, h107, h108, h109, h102, h103, h104, (rgs_zu jk (by omega)), (rgs_zu jo (by omega)), (rgs_zu jfi (by omega)), (rgs_zu jbe (by omega)), jle, jmo, (rgs_zu jz (by omega)), jlz, (rgs_zu jsm (by omega)), (rgs_zu jsa (by omega)), jqf, jql, jaf, jal, jsd, joa, jof, jon, (rtk_leaf (rtk_ns (S := (clno 1 (fun x => (fun _ => False) x ∨ (10 ≤ x ∧ x ≤ 10)))) jt) (by omega) (Or.inr (Or.inl ⟨rfl, by omega, by omega, by omega, by rw [zu_self]; omega⟩)) (Or.inr (Or.inl ⟨rfl, mnS_ns (SV := SV)⟩))), (by omega), (fun h => absurd h (by decide)), (fun h => absurd h (by decide)), (fun h => absurd h (by decide)), (fun h => absurd h (by decide)), (fun _ => by rw [zu_self]; decide), (fun h => absurd h (by decide)), (sas_s jss (by omega)), (svR_s jsv hq39.1 hq39.2 hq38 (by omega))⟩
    refine zz_iconst d_MO_readDot_31 ?_
    refine ab_callV (d' := d - 1) (as := [vz m_nodes, vz 1]) (st := []) (r := _) (z1_MO_part (o := o) (m_thrown := m_thrown) (m_taped := m_taped) (m_length := m_length) (m_out := m_out) (m_wide := m_wide) (m_gathered := g229) (m_sets := (m_sets + 1)) (m_ranges := r230) (m_nodes := (m_nodes + 1)) (m_at := m_at) (m_flags := m_flags) (m_fault := m_fault) (m_place := m_place) (m_numbered := m_numbered) (m_depth := m_depth) (m_value := m_value) (m_isNot := m_isNot) (m_least0 := m_least0) (m_most0 := m_most0) (m_slot := m_slot) (m_work := m_work) (m_got := m_got) (m_rowMany := m_rowMany) (m_charAt := m_charAt) (m_charWide := m_charWide) (m_trail := m_trail) (m_isMatch := m_isMatch) (m_matchGroups := m_matchGroups) (m_allFrom := m_allFrom) (m_allBefore := m_allBefore) (m_founds := m_founds) (m_pieces := m_pieces) (m_writtenMany := m_writtenMany) (m_templateWide := m_templateWide) (m_tooMuch := m_tooMuch) (x := m_nodes) (dh := 0) (rp := rp) (ls := ls) (dz := z241) (SV := (fun s => if s = m_sets then (clno 1 (fun x => (fun _ => False) x ∨ (10 ≤ x ∧ x ≤ 10))) else SV s)) (ro := ro) (vv := vv) (dv := (mnS (clno 1 (fun x => (fun _ => False) x ∨ (10 ≤ x ∧ x ≤ 10))))) (a1_ := a1_) (b1_ := b1_) (c1_ := c1_) (d1_ := d1_) (e1_ := e1_) (nu9 := 0) (fo9 := 0) (t1_ := t1_) (ao1_ := ao1_) (ro1_ := ro1_) (ts1_ := ts1_) (RL := RL233) (RH := RH234) h80 ptrI_0 (by omega) (by omega) (by omega) (by omega)) (fun oc G2 h => by rcases h with ⟨h, _⟩ <;> exact ⟨_, h⟩) (by omega) m_MO_part ml_MO_375 im_MO_part se_MO_part c_MO h80.2.2 (Nat.le_of_ble_eq_true rfl) d_MO_readDot_32 rfl ?_
    intro v G43 hq
    rcases hq with ⟨hv, hfk, hlk, hsk, pNtrI_0⟩
    cases hv
    have h80 := hfk.get h80 (by decide)
    have h84 := hfk.get h84 (by decide)
    have h87 := hfk.get h87 (by decide)
    have h88 := hfk.get h88 (by decide)
    have h93 := hfk.get h93 (by decide)
    have h81 := hfk.get h81 (by decide)
    have h82 := hfk.get h82 (by decide)
    have h91 := hfk.get h91 (by decide)
    have h92 := hfk.get h92 (by decide)
    have h110 := hfk.get h110 (by decide)
    have h111 := hfk.get h111 (by decide)
    have ptrI_0 := pNtrI_0
    have hfr := hfr.tr hfk (by decide)
    have hlen := hlk.trans hlen
    have hsl := hsk.trans hsl
    change ab_W _ _ _ G43 35 [some (vR 80)] [] _
    refine ab_aload_n d_MO_readDot_35 rfl ?_
    refine ab_dup d_MO_readDot_36 rfl ?_
    refine ab_getf (fs := mof m_thrown m_taped m_length m_out m_wide g229 (m_sets + 1) r230 (m_nodes + 1) m_at m_flags m_fault m_place m_numbered m_depth m_value m_isNot m_least0 m_most0 m_slot m_work m_got m_rowMany m_charAt m_charWide m_trail m_isMatch m_matchGroups m_allFrom m_allBefore m_founds m_pieces m_writtenMany m_templateWide m_tooMuch) f_MO_279 d_MO_readDot_37 h80.2.2 rfl ?_
    refine zz_iconst d_MO_readDot_40 ?_
    refine zz_iadd d_MO_readDot_41 ?_
    refine ab_putf (fs := mof m_thrown m_taped m_length m_out m_wide g229 (m_sets + 1) r230 (m_nodes + 1) m_at m_flags m_fault m_place m_numbered m_depth m_value m_isNot m_least0 m_most0 m_slot m_work m_got m_rowMany m_charAt m_charWide m_trail m_isMatch m_matchGroups m_allFrom m_allBefore m_founds m_pieces m_writtenMany m_templateWide m_tooMuch) f_MO_279 (Or.inl rfl) d_MO_readDot_42 h80.2.2 (Nat.le_of_ble_eq_true rfl) (fun _ => ⟨rfl, rfl⟩) (h80.2.1 (by decide)) ?_
    obtain ⟨G44, eG44⟩ : ∃ z : ab_G, z = List.set G43 80 (ab_ob 12 (mof m_thrown m_taped m_length m_out m_wide g229 (m_sets + 1) r230 (m_nodes + 1) (m_at + 1) m_flags m_fault m_place m_numbered m_depth m_value m_isNot m_least0 m_most0 m_slot m_work m_got m_rowMany m_charAt m_charWide m_trail m_isMatch m_matchGroups m_allFrom m_allBefore m_founds m_pieces m_writtenMany m_templateWide m_tooMuch)) := ⟨_, rfl⟩
    have h84 := h84.keep h80 eG44 (by decide)
    have h87 := h87.keep h80 eG44 (by decide)
    have h88 := h88.keep h80 eG44 (by decide)
    have h93 := h93.keep h80 eG44 (by decide)
    have h81 := h81.keep h80 eG44 (by decide)
    have h82 := h82.keep h80 eG44 (by decide)
    have h91 := h91.keep h80 eG44 (by decide)
    have h92 := h92.keep h80 eG44 (by decide)
    have h110 := h110.keep h80 eG44 (by decide)
    have h111 := h111.keep h80 eG44 (by decide)
    have hst := (fx.rf (o := o) (S := [280]) (G := G43)).wr h80 eG44 (List.mem_singleton.mpr rfl)
    have ptrI_0 := trI.fr hst ptrI_0 (by decide) (by decide) (by decide) (by decide) (by decide) (by decide) (by decide) (by decide) (by decide) (by decide) (by decide) (by decide) (by decide) (by decide) (by decide) (by decide) (by decide) (by decide)
    have hlen := (z_len eG44).trans hlen
    have hsl := (z_sl h80 eG44 rfl).trans hsl
    have hfr := hfr.wr h80 eG44 (by decide)
    have h80 := h80.kept eG44
    change ab_W _ _ _ (List.set G43 80 (ab_ob 12 (mof m_thrown m_taped m_length m_out m_wide g229 (m_sets + 1) r230 (m_nodes + 1) (m_at + 1) m_flags m_fault m_place m_numbered m_depth m_value m_isNot m_least0 m_most0 m_slot m_work m_got m_rowMany m_charAt m_charWide m_trail m_isMatch m_matchGroups m_allFrom m_allBefore m_founds m_pieces m_writtenMany m_templateWide m_tooMuch))) 45 [some (vR 80)] [] _
    rw [← eG44]
    refine ab_vret rfl d_MO_readDot_45 ?_
    rw [hQ]; exact ⟨_, _, _, _, _, _, _, _, _, _, z241, _, _, _, _, _, (fun s => if s = m_sets then (clno 1 (fun x => (fun _ => False) x ∨ (10 ≤ x ∧ x ≤ 10))) else SV s), (mnS (clno 1 (fun x => (fun _ => False) x ∨ (10 ≤ x ∧ x ≤ 10)))), rfl, hfr, hlen, hsl, h80, h87, h88, h93, h91, h92, h110, h111, ptrI_0, (by omega), (by first | exact hq3 | exact rgs_w hq3 (by omega)), (by first | exact hq35 | exact rgs_w hq35 (by omega)), (by first | exact hq36 | exact rgs_w hq36 (by omega)), (by have t_ := dot_1 hq38 (s := z241) (by omega); exact Or.inr (Or.inr (Or.inr (Or.inl ⟨by omega, by omega, by omega⟩)))), (by exact Or.inr (Or.inr (Or.inr (Or.inl ⟨by omega, by omega, dtv_1 (by omega)⟩))))⟩
set_option maxRecDepth 100000 in
set_option maxHeartbeats 4000000 in
theorem z_MO_readEscape {X : ab_X} {d : Nat} {o : Nat → Nat} {G : ab_G} {m_thrown : Int} {m_taped : Int} {m_length : Int} {m_out : Int} {m_wide : Int} {m_gathered : Int} {m_sets : Int} {m_ranges : Int} {m_nodes : Int} {m_at : Int} {m_flags : Int} {m_fault : Int} {m_place : Int} {m_numbered : Int} {m_depth : Int} {m_value : Int} {m_isNot : Int} {m_least0 : Int} {m_most0 : Int} {m_slot : Int} {m_work : Int} {m_got : Int} {m_rowMany : Int} {m_charAt : Int} {m_charWide : Int} {m_trail : Int} {m_isMatch : Int} {m_matchGroups : Int} {m_allFrom : Int} {m_allBefore : Int} {m_founds : Int} {m_pieces : Int} {m_writtenMany : Int} {m_templateWide : Int} {m_tooMuch : Int} {A_tape : Int → Int} {LO : Int → Int} {HI : Int → Int} {MK : Int → Int} {RL : Int → Int} {RH : Int → Int} {NS : Int → Int} {NM : Int → Int} {rp : Int} {ls : Int} {SV : Int → Int → Prop} {ro : Sn} {vv : Sn} {a1_ : Int} {b1_ : Int} {c1_ : Int} {d1_ : Int} {e1_ : Int} {t1_ : List Fr} {ao1_ : Option Sn} {ro1_ : Sn} {ts1_ : List Fs} (h80 : cc o G 80 280 (ab_ob 12 (mof m_thrown m_taped m_length m_out m_wide m_gathered m_sets m_ranges m_nodes m_at m_flags m_fault m_place m_numbered m_depth m_value m_isNot m_least0 m_most0 m_slot m_work m_got m_rowMany m_charAt m_charWide m_trail m_isMatch m_matchGroups m_allFrom m_allBefore m_founds m_pieces m_writtenMany m_templateWide m_tooMuch))) (h84 : cc o G 84 284 (za 2000 A_tape)) (h87 : cc o G 87 287 (za 9000 LO)) (h88 : cc o G 88 288 (za 9000 HI)) (h93 : cc o G 93 293 (zb 1200 MK)) (h81 : cc o G 81 281 (za 13 tbA)) (h82 : cc o G 82 282 (za 66 tbT)) (h91 : cc o G 91 291 (za 24000 RL)) (h92 : cc o G 92 292 (za 24000 RH)) (h110 : cc o G 110 310 (za 120 NS)) (h111 : cc o G 111 311 (za 10 NM)) (ptrI_0 : trI o G 0 m_nodes m_sets (m_depth + 1) (-1) 0 0 ((a1_, b1_, c1_, d1_, e1_) :: t1_) rp ls 0 SV ((ao1_, ro1_) :: ts1_) ro vv mnI RL RH m_ranges 0 0) (n18 : ab_n0 = 18) (cta : 0 ≤ m_taped ∧ m_taped ≤ 2000) (jtp : rgs A_tape 2000 0 255) (jmk : rgs MK 1200 0 1) (jrl : rgs RL 24000 0 1114111) (jrh : rgs RH 24000 0 1114111) (jns : rgs NS 120 0 255) (jnm : rgs NM 10 0 12) (cf : m_fault = 0) (cat : 0 ≤ m_at ∧ m_at < m_taped) (cpo : 0 ≤ m_nodes ∧ m_nodes + 2 * m_depth + 0 ≤ 2 * m_at ∧ 0 ≤ m_sets ∧ m_sets + 0 ≤ m_at ∧ 0 ≤ m_ranges ∧ m_ranges + 0 ≤ 12 * m_at ∧ 0 ≤ m_depth ∧ m_depth ≤ 30 ∧ 0 ≤ m_numbered ∧ m_numbered ≤ 9 ∧ -2147483648 ≤ m_flags ∧ m_flags ≤ 2147483647 ∧ -2147483648 ≤ m_value ∧ m_value ≤ 2147483647) (cfl : 0 ≤ m_flags ∧ m_flags ≤ 15) (hch : tpk A_tape m_taped m_at = 92) (hd : 6 ≤ d) : ab_F X d y_MO_readEscape (.code y_MO_readEscape b_MO_readEscape 2 none) [vR 80] G (fun oc G2 => (∃ a2 : Int, ∃ g2 : Int, ∃ s2 : Int, ∃ r2 : Int, ∃ n2 : Int, ∃ v2 : Int, ∃ nt2 : Int, ∃ w2 : Int, ∃ f2 : Int, ∃ p2 : Int, ∃ z9 : Int, ∃ LO2 : Int → Int, ∃ HI2 : Int → Int, ∃ MK2 : Int → Int, ∃ RL2 : Int → Int, ∃ RH2 : Int → Int, ∃ SV2 : Int → Int → Prop, ∃ v9 : Sn, oc = .returned none ∧ fx o o [280, 287, 288, 293, 291, 292, 310, 311, 294, 295, 296, 297, 298, 299, 300, 301, 290, 289, 305, 306, 307, 308, 309, 302, 303, 304] G G2 ∧ G2.length = G.length ∧ ab_slots G2 = ab_slots G ∧ cc o G2 80 280 (ab_ob 12 (mof m_thrown m_taped m_length m_out w2 g2 s2 r2 n2 a2 m_flags f2 p2 m_numbered m_depth v2 nt2 m_least0 m_most0 m_slot m_work m_got m_rowMany m_charAt m_charWide m_trail m_isMatch m_matchGroups m_allFrom m_allBefore m_founds m_pieces m_writtenMany m_templateWide m_tooMuch)) ∧ cc o G2 87 287 (za 9000 LO2) ∧ cc o G2 88 288 (za 9000 HI2) ∧ cc o G2 93 293 (zb 1200 MK2) ∧ cc o G2 91 291 (za 24000 RL2) ∧ cc o G2 92 292 (za 24000 RH2) ∧ cc o G2 110 310 (za 120 NS) ∧ cc o G2 111 311 (za 10 NM) ∧ trI o G2 0 n2 s2 (m_depth + 1) (-1) 0 0 ((a1_, b1_, c1_, d1_, (e1_ + z9)) :: t1_) 1 z9 0 SV2 ((ao1_, (mnC ro1_ v9)) :: ts1_) ro1_ v9 mnI RL2 RH2 r2 0 0 ∧ (f2 = 0 ∧ p2 = m_place ∧ m_at < a2 ∧ 0 ≤ n2 ∧ n2 + 2 * m_depth ≤ 2 * a2 ∧ 0 ≤ s2 ∧ s2 ≤ a2 ∧ 0 ≤ r2 ∧ r2 ≤ 12 * a2 ∧ a2 ≤ m_taped ∧ -2147483648 ≤ v2 ∧ v2 ≤ 2147483647) ∧ (rgs MK2 1200 0 1) ∧ (rgs RL2 24000 0 1114111) ∧ (rgs RH2 24000 0 1114111) ∧ (lfR A_tape m_taped m_flags m_at z9 a2) ∧ (lfM A_tape m_taped m_flags m_at v9 a2)) ∨ (∃ a2 : Int, ∃ f2 : Int, ∃ p2 : Int, ∃ g2 : Int, ∃ v2 : Int, ∃ nt2 : Int, ∃ w2 : Int, ∃ LO2 : Int → Int, ∃ HI2 : Int → Int, ∃ MK2 : Int → Int, oc = .returned none ∧ fx o o [280, 287, 288, 293, 291, 292, 310, 311, 294, 295, 296, 297, 298, 299, 300, 301, 290, 289, 305, 306, 307, 308, 309, 302, 303, 304] G G2 ∧ G2.length = G.length ∧ ab_slots G2 = ab_slots G ∧ cc o G2 80 280 (ab_ob 12 (mof m_thrown m_taped m_length m_out w2 g2 m_sets m_ranges m_nodes a2 m_flags f2 p2 m_numbered m_depth v2 nt2 m_least0 m_most0 m_slot m_work m_got m_rowMany m_charAt m_charWide m_trail m_isMatch m_matchGroups m_allFrom m_allBefore m_founds m_pieces m_writtenMany m_templateWide m_tooMuch)) ∧ cc o G2 87 287 (za 9000 LO2) ∧ cc o G2 88 288 (za 9000 HI2) ∧ cc o G2 93 293 (zb 1200 MK2) ∧ cc o G2 91 291 (za 24000 RL) ∧ cc o G2 92 292 (za 24000 RH) ∧ cc o G2 110 310 (za 120 NS) ∧ cc o G2 111 311 (za 10 NM) ∧ trI o G2 0 m_nodes m_sets (m_depth + 1) (-1) 0 0 ((a1_, b1_, c1_, d1_, e1_) :: t1_) rp ls 0 SV ((ao1_, ro1_) :: ts1_) ro vv mnI RL RH m_ranges 0 0 ∧ (1 ≤ f2 ∧ f2 ≤ 14 ∧ 0 ≤ a2 ∧ a2 ≤ 4000 ∧ -2147483648 ≤ v2 ∧ v2 ≤ 2147483647) ∧ (rgs MK2 1200 0 1) ∧ (lfF A_tape m_taped m_flags m_at f2 p2))) := by
  refine ab_F_of (by decide +kernel) (Nat.le_of_ble_eq_true rfl) ?_
  obtain ⟨Q, hQ⟩ : ∃ z : Outcome → ab_G → Prop, z = (fun oc G2 => (∃ a2 : Int, ∃ g2 : Int, ∃ s2 : Int, ∃ r2 : Int, ∃ n2 : Int, ∃ v2 : Int, ∃ nt2 : Int, ∃ w2 : Int, ∃ f2 : Int, ∃ p2 : Int, ∃ z9 : Int, ∃ LO2 : Int → Int, ∃ HI2 : Int → Int, ∃ MK2 : Int → Int, ∃ RL2 : Int → Int, ∃ RH2 : Int → Int, ∃ SV2 : Int → Int → Prop, ∃ v9 : Sn, oc = .returned none ∧ fx o o [280, 287, 288, 293, 291, 292, 310, 311, 294, 295, 296, 297, 298, 299, 300, 301, 290, 289, 305, 306, 307, 308, 309, 302, 303, 304] G G2 ∧ G2.length = G.length ∧ ab_slots G2 = ab_slots G ∧ cc o G2 80 280 (ab_ob 12 (mof m_thrown m_taped m_length m_out w2 g2 s2 r2 n2 a2 m_flags f2 p2 m_numbered m_depth v2 nt2 m_least0 m_most0 m_slot m_work m_got m_rowMany m_charAt m_charWide m_trail m_isMatch m_matchGroups m_allFrom m_allBefore m_founds m_pieces m_writtenMany m_templateWide m_tooMuch)) ∧ cc o G2 87 287 (za 9000 LO2) ∧ cc o G2 88 288 (za 9000 HI2) ∧ cc o G2 93 293 (zb 1200 MK2) ∧ cc o G2 91 291 (za 24000 RL2) ∧ cc o G2 92 292 (za 24000 RH2) ∧ cc o G2 110 310 (za 120 NS) ∧ cc o G2 111 311 (za 10 NM) ∧ trI o G2 0 n2 s2 (m_depth + 1) (-1) 0 0 ((a1_, b1_, c1_, d1_, (e1_ + z9)) :: t1_) 1 z9 0 SV2 ((ao1_, (mnC ro1_ v9)) :: ts1_) ro1_ v9 mnI RL2 RH2 r2 0 0 ∧ (f2 = 0 ∧ p2 = m_place ∧ m_at < a2 ∧ 0 ≤ n2 ∧ n2 + 2 * m_depth ≤ 2 * a2 ∧ 0 ≤ s2 ∧ s2 ≤ a2 ∧ 0 ≤ r2 ∧ r2 ≤ 12 * a2 ∧ a2 ≤ m_taped ∧ -2147483648 ≤ v2 ∧ v2 ≤ 2147483647) ∧ (rgs MK2 1200 0 1) ∧ (rgs RL2 24000 0 1114111) ∧ (rgs RH2 24000 0 1114111) ∧ (lfR A_tape m_taped m_flags m_at z9 a2) ∧ (lfM A_tape m_taped m_flags m_at v9 a2)) ∨ (∃ a2 : Int, ∃ f2 : Int, ∃ p2 : Int, ∃ g2 : Int, ∃ v2 : Int, ∃ nt2 : Int, ∃ w2 : Int, ∃ LO2 : Int → Int, ∃ HI2 : Int → Int, ∃ MK2 : Int → Int, oc = .returned none ∧ fx o o [280, 287, 288, 293, 291, 292, 310, 311, 294, 295, 296, 297, 298, 299, 300, 301, 290, 289, 305, 306, 307, 308, 309, 302, 303, 304] G G2 ∧ G2.length = G.length ∧ ab_slots G2 = ab_slots G ∧ cc o G2 80 280 (ab_ob 12 (mof m_thrown m_taped m_length m_out w2 g2 m_sets m_ranges m_nodes a2 m_flags f2 p2 m_numbered m_depth v2 nt2 m_least0 m_most0 m_slot m_work m_got m_rowMany m_charAt m_charWide m_trail m_isMatch m_matchGroups m_allFrom m_allBefore m_founds m_pieces m_writtenMany m_templateWide m_tooMuch)) ∧ cc o G2 87 287 (za 9000 LO2) ∧ cc o G2 88 288 (za 9000 HI2) ∧ cc o G2 93 293 (zb 1200 MK2) ∧ cc o G2 91 291 (za 24000 RL) ∧ cc o G2 92 292 (za 24000 RH) ∧ cc o G2 110 310 (za 120 NS) ∧ cc o G2 111 311 (za 10 NM) ∧ trI o G2 0 m_nodes m_sets (m_depth + 1) (-1) 0 0 ((a1_, b1_, c1_, d1_, e1_) :: t1_) rp ls 0 SV ((ao1_, ro1_) :: ts1_) ro vv mnI RL RH m_ranges 0 0 ∧ (1 ≤ f2 ∧ f2 ≤ 14 ∧ 0 ≤ a2 ∧ a2 ≤ 4000 ∧ -2147483648 ≤ v2 ∧ v2 ≤ 2147483647) ∧ (rgs MK2 1200 0 1) ∧ (lfF A_tape m_taped m_flags m_at f2 p2))) := ⟨_, rfl⟩
  rw [← hQ]
  change ab_W X (ab_pl y_MO_readEscape b_MO_readEscape 2 none) d G 0 [some (vR 80), none] [] Q
  have hfr : fx o o [280, 287, 288, 293, 291, 292, 310, 311, 294, 295, 296, 297, 298, 299, 300, 301, 290, 289, 305, 306, 307, 308, 309, 302, 303, 304] G G := fx.rf
  have hlen : G.length = G.length := rfl
  have hsl : ab_slots G = ab_slots G := rfl
  refine ab_aload_n d_MO_readEscape_0 rfl ?_
  refine zz_iconst d_MO_readEscape_1 ?_
  refine ab_callV (d' := d - 1) (as := [vz 0]) (st := []) (r := _) (z_MO_escape (o := o) (m_thrown := m_thrown) (m_taped := m_taped) (m_length := m_length) (m_out := m_out) (m_wide := m_wide) (m_gathered := m_gathered) (m_sets := m_sets) (m_ranges := m_ranges) (m_nodes := m_nodes) (m_at := m_at) (m_flags := m_flags) (m_fault := m_fault) (m_place := m_place) (m_numbered := m_numbered) (m_depth := m_depth) (m_value := m_value) (m_isNot := m_isNot) (m_least0 := m_least0) (m_most0 := m_most0) (m_slot := m_slot) (m_work := m_work) (m_got := m_got) (m_rowMany := m_rowMany) (m_charAt := m_charAt) (m_charWide := m_charWide) (m_trail := m_trail) (m_isMatch := m_isMatch) (m_matchGroups := m_matchGroups) (m_allFrom := m_allFrom) (m_allBefore := m_allBefore) (m_founds := m_founds) (m_pieces := m_pieces) (m_writtenMany := m_writtenMany) (m_templateWide := m_templateWide) (m_tooMuch := m_tooMuch) (A_tape := A_tape) (ic := 0) h80 h84 (by omega) (by omega) jtp (by omega) (by omega) (by omega) (by omega)) (fun oc G2 h => by rcases h with ⟨_, _, _, h, _⟩ | ⟨_, _, h, _⟩ | ⟨_, _, _, _, h, _⟩ | ⟨_, h, _⟩ | ⟨h, _⟩ <;> exact ⟨_, h⟩) (by omega) m_MO_escape ml_MO_344 im_MO_escape se_MO_escape c_MO h80.2.2 (Nat.le_of_ble_eq_true rfl) d_MO_readEscape_2 rfl ?_
  intro v G1 hq
  rcases hq with ⟨a22, f23, p24, hv, hfk, hlk, hsk, hN80, hq5, hq6, hq7⟩ | ⟨a28, v29, hv, hfk, hlk, hsk, hN80, hq10, hq11⟩ | ⟨a212, v213, nt214, k215, hv, hfk, hlk, hsk, hN80, hq16, hq17, hq18⟩ | ⟨v219, hv, hfk, hlk, hsk, hN80, hq20, hq21⟩ | ⟨hv, hfk, hlk, hsk, hN80, hq22, hq23⟩
  · cases hv
    have h84 := hfk.get h84 (by decide)
    have h87 := hfk.get h87 (by decide)
    have h88 := hfk.get h88 (by decide)
    have h93 := hfk.get h93 (by decide)
    have h81 := hfk.get h81 (by decide)
    have h82 := hfk.get h82 (by decide)
    have h91 := hfk.get h91 (by decide)
    have h92 := hfk.get h92 (by decide)
    have h110 := hfk.get h110 (by decide)
    have h111 := hfk.get h111 (by decide)
    have ptrI_0 := trI.fr hfk ptrI_0 (by decide) (by decide) (by decide) (by decide) (by decide) (by decide) (by decide) (by decide) (by decide) (by decide) (by decide) (by decide) (by decide) (by decide) (by decide) (by decide) (by decide) (by decide)
    have hfr := hfr.tr hfk (by decide)
    have hlen := hlk.trans hlen
    have hsl := hsk.trans hsl
    have h80 := hN80
    change ab_W _ _ _ G1 5 [some (vR 80), none] [vz (-1)] _
    refine ab_istore_n d_MO_readEscape_5 (Nat.le_of_ble_eq_true rfl) (Nat.le_of_ble_eq_true rfl) rfl ?_
    change ab_W _ _ _ G1 6 [some (vR 80), some (vz (-1))] [] _
    refine ab_iload_n d_MO_readEscape_6 rfl ?_
    refine zz_if_ne (tgt := 21) d_MO_readEscape_7 (by decide) (by decide) (fun c24 => ?_) (fun c24 => absurd c24 (by decide))
    refine ab_iload_n d_MO_readEscape_21 rfl ?_
    refine zz_iconst d_MO_readEscape_22 ?_
    refine zz_icmp_ne (tgt := 60) d_MO_readEscape_23 (by decide) (by decide) (by decide) (fun c25 => ?_) (fun c25 => absurd c25 (by decide))
    refine ab_iload_n d_MO_readEscape_60 rfl ?_
    refine zz_iconst d_MO_readEscape_61 ?_
    refine zz_icmp_ne (tgt := 83) d_MO_readEscape_62 (by decide) (by decide) (by decide) (fun c26 => ?_) (fun c26 => absurd c26 (by decide))
    refine ab_iload_n d_MO_readEscape_83 rfl ?_
    refine zz_iconst d_MO_readEscape_84 ?_
    refine zz_icmp_ne (tgt := 100) d_MO_readEscape_85 (by decide) (by decide) (by decide) (fun c27 => ?_) (fun c27 => absurd c27 (by decide))
    refine ab_vret rfl d_MO_readEscape_100 ?_
    rw [hQ]; exact (Or.inr ⟨_, _, _, _, _, _, _, _, _, _, rfl, hfr, hlen, hsl, h80, h87, h88, h93, h91, h92, h110, h111, ptrI_0, (by omega), (by first | exact jmk | exact rgs_w jmk (by omega)), (by exact Or.inl ⟨by omega, hq7.resolve_right (fun z => absurd z.1 (by decide)), by omega⟩)⟩)
  · cases hv
    have h84 := hfk.get h84 (by decide)
    have h87 := hfk.get h87 (by decide)
    have h88 := hfk.get h88 (by decide)
    have h93 := hfk.get h93 (by decide)
    have h81 := hfk.get h81 (by decide)
    have h82 := hfk.get h82 (by decide)
    have h91 := hfk.get h91 (by decide)
    have h92 := hfk.get h92 (by decide)
    have h110 := hfk.get h110 (by decide)
    have h111 := hfk.get h111 (by decide)
    have ptrI_0 := trI.fr hfk ptrI_0 (by decide) (by decide) (by decide) (by decide) (by decide) (by decide) (by decide) (by decide) (by decide) (by decide) (by decide) (by decide) (by decide) (by decide) (by decide) (by decide) (by decide) (by decide)
    have hfr := hfr.tr hfk (by decide)
    have hlen := hlk.trans hlen
    have hsl := hsk.trans hsl
    have h80 := hN80
    change ab_W _ _ _ G1 5 [some (vR 80), none] [vz 0] _
    refine ab_istore_n d_MO_readEscape_5 (Nat.le_of_ble_eq_true rfl) (Nat.le_of_ble_eq_true rfl) rfl ?_
    change ab_W _ _ _ G1 6 [some (vR 80), some (vz 0)] [] _
    refine ab_iload_n d_MO_readEscape_6 rfl ?_
    refine zz_if_ne (tgt := 21) d_MO_readEscape_7 (by decide) (by decide) (fun c28 => absurd c28 (by decide)) (fun c28 => ?_)
    refine ab_aload_n d_MO_readEscape_10 rfl ?_
    refine ab_aload_n d_MO_readEscape_11 rfl ?_
    refine ab_getf (fs := mof m_thrown m_taped m_length m_out m_wide m_gathered m_sets m_ranges m_nodes a28 m_flags m_fault m_place m_numbered m_depth v29 m_isNot m_least0 m_most0 m_slot m_work m_got m_rowMany m_charAt m_charWide m_trail m_isMatch m_matchGroups m_allFrom m_allBefore m_founds m_pieces m_writtenMany m_templateWide m_tooMuch) f_MO_307 d_MO_readEscape_12 h80.2.2 rfl ?_
    refine ab_callV (d' := d - 1) (as := [vz v29]) (st := []) (r := _) (z_MO_readCharacter (o := o) (m_thrown := m_thrown) (m_taped := m_taped) (m_length := m_length) (m_out := m_out) (m_wide := m_wide) (m_gathered := m_gathered) (m_sets := m_sets) (m_ranges := m_ranges) (m_nodes := m_nodes) (m_at := a28) (m_flags := m_flags) (m_fault := m_fault) (m_place := m_place) (m_numbered := m_numbered) (m_depth := m_depth) (m_value := v29) (m_isNot := m_isNot) (m_least0 := m_least0) (m_most0 := m_most0) (m_slot := m_slot) (m_work := m_work) (m_got := m_got) (m_rowMany := m_rowMany) (m_charAt := m_charAt) (m_charWide := m_charWide) (m_trail := m_trail) (m_isMatch := m_isMatch) (m_matchGroups := m_matchGroups) (m_allFrom := m_allFrom) (m_allBefore := m_allBefore) (m_founds := m_founds) (m_pieces := m_pieces) (m_writtenMany := m_writtenMany) (m_templateWide := m_templateWide) (m_tooMuch := m_tooMuch) (A_tape := A_tape) (LO := LO) (HI := HI) (MK := MK) (RL := RL) (RH := RH) (NS := NS) (NM := NM) (rp := rp) (ls := ls) (SV := SV) (ro := ro) (vv := vv) (a1_ := a1_) (b1_ := b1_) (c1_ := c1_) (d1_ := d1_) (e1_ := e1_) (t1_ := t1_) (ao1_ := ao1_) (ro1_ := ro1_) (ts1_ := ts1_) (c := v29) h80 h84 h87 h88 h93 h81 h82 h91 h92 h110 h111 ptrI_0 (by omega) (by omega) jtp jmk jrl jrh jns jnm (by omega) (by omega) (by omega) (by omega) (by omega) (by omega)) (fun oc G2 h => by rcases h with ⟨_, _, _, _, _, _, _, _, _, _, _, _, _, _, _, _, _, _, h, _⟩ <;> exact ⟨_, h⟩) (by omega) m_MO_readCharacter ml_MO_378 im_MO_readCharacter se_MO_readCharacter c_MO h80.2.2 (Nat.le_of_ble_eq_true rfl) d_MO_readEscape_15 rfl ?_
    intro v G29 hq
    rcases hq with ⟨a230, g231, s232, r233, n234, v235, nt236, w237, f238, p239, z940, LO241, HI242, MK243, RL244, RH245, SV246, v947, hv, hfk, hlk, hsk, hN80, hN87, hN88, hN93, hN91, hN92, hN110, hN111, pNtrI_0, hq48, hq49, hq50, hq51, hq52, hq53⟩
    cases hv
    have h84 := hfk.get h84 (by decide)
    have h81 := hfk.get h81 (by decide)
    have h82 := hfk.get h82 (by decide)
    have ptrI_0 := pNtrI_0
    have hfr := hfr.tr hfk (by decide)
    have hlen := hlk.trans hlen
    have hsl := hsk.trans hsl
    have h80 := hN80
    have h87 := hN87
    have h88 := hN88
    have h93 := hN93
    have h91 := hN91
    have h92 := hN92
    have h110 := hN110
    have h111 := hN111
    change ab_W _ _ _ G29 18 [some (vR 80), some (vz 0)] [] _
    refine ab_goto (tgt := 100) d_MO_readEscape_18 (by decide) ?_
    refine ab_vret rfl d_MO_readEscape_100 ?_
    rw [hQ]; exact (Or.inl ⟨_, _, _, _, _, _, _, _, _, _, z940, _, _, _, _, _, SV246, v947, rfl, hfr, hlen, hsl, h80, h87, h88, h93, h91, h92, h110, h111, ptrI_0, (by omega), (by first | exact hq49 | exact rgs_w hq49 (by omega)), (by first | exact hq50 | exact rgs_w hq50 (by omega)), (by first | exact hq51 | exact rgs_w hq51 (by omega)), (by rw [show a230 = a28 by omega]; exact Or.inl ⟨by omega, _, hq11, Or.inl ⟨by omega, hq52⟩⟩), (by rw [show a230 = a28 by omega]; exact Or.inl ⟨by omega, _, hq11, Or.inl ⟨by omega, hq53⟩⟩)⟩)
  · cases hv
    have h84 := hfk.get h84 (by decide)
    have h87 := hfk.get h87 (by decide)
    have h88 := hfk.get h88 (by decide)
    have h93 := hfk.get h93 (by decide)
    have h81 := hfk.get h81 (by decide)
    have h82 := hfk.get h82 (by decide)
    have h91 := hfk.get h91 (by decide)
    have h92 := hfk.get h92 (by decide)
    have h110 := hfk.get h110 (by decide)
    have h111 := hfk.get h111 (by decide)
    have ptrI_0 := trI.fr hfk ptrI_0 (by decide) (by decide) (by decide) (by decide) (by decide) (by decide) (by decide) (by decide) (by decide) (by decide) (by decide) (by decide) (by decide) (by decide) (by decide) (by decide) (by decide) (by decide)
    have hfr := hfr.tr hfk (by decide)
    have hlen := hlk.trans hlen
    have hsl := hsk.trans hsl
    have h80 := hN80
    change ab_W _ _ _ G1 5 [some (vR 80), none] [vz 1] _
    refine ab_istore_n d_MO_readEscape_5 (Nat.le_of_ble_eq_true rfl) (Nat.le_of_ble_eq_true rfl) rfl ?_
    change ab_W _ _ _ G1 6 [some (vR 80), some (vz 1)] [] _
    refine ab_iload_n d_MO_readEscape_6 rfl ?_
    refine zz_if_ne (tgt := 21) d_MO_readEscape_7 (by decide) (by decide) (fun c54 => ?_) (fun c54 => absurd c54 (by decide))
    refine ab_iload_n d_MO_readEscape_21 rfl ?_
    refine zz_iconst d_MO_readEscape_22 ?_
    refine zz_icmp_ne (tgt := 60) d_MO_readEscape_23 (by decide) (by decide) (by decide) (fun c55 => absurd c55 (by decide)) (fun c55 => ?_)
    obtain ⟨K, O, Fi, Be, Le, Mo, Z, LZ, SM, SA, QF, QL, AF, AL, SD, OA, OF, ON, h94, h95, h96, h97, h98, h99, h100, h101, h90, h89, h105, h106, h107, h108, h109, h102, h103, h104, jk, jo, jfi, jbe, jle, jmo, jz, jlz, jsm, jsa, jqf, jql, jaf, jal, jsd, joa, jof, jon, jt, cnd, cre, crs, crz, ck5, ck6, ck7, jss, jsv⟩ := ptrI_0
    refine ab_aload_n d_MO_readEscape_26 rfl ?_
    refine ab_callV (d' := d - 1) (as := []) (st := []) (r := _) (z_MO_begin (o := o) (m_thrown := m_thrown) (m_taped := m_taped) (m_length := m_length) (m_out := m_out) (m_wide := m_wide) (m_gathered := m_gathered) (m_sets := m_sets) (m_ranges := m_ranges) (m_nodes := m_nodes) (m_at := a212) (m_flags := m_flags) (m_fault := m_fault) (m_place := m_place) (m_numbered := m_numbered) (m_depth := m_depth) (m_value := v213) (m_isNot := nt214) (m_least0 := m_least0) (m_most0 := m_most0) (m_slot := m_slot) (m_work := m_work) (m_got := m_got) (m_rowMany := m_rowMany) (m_charAt := m_charAt) (m_charWide := m_charWide) (m_trail := m_trail) (m_isMatch := m_isMatch) (m_matchGroups := m_matchGroups) (m_allFrom := m_allFrom) (m_allBefore := m_allBefore) (m_founds := m_founds) (m_pieces := m_pieces) (m_writtenMany := m_writtenMany) (m_templateWide := m_templateWide) (m_tooMuch := m_tooMuch) (LO := LO) (HI := HI) (MK := MK) h80 h93 h87 h88 (by omega) jmk (by omega)) (fun oc G2 h => by rcases h with ⟨_, h, _⟩ <;> exact ⟨_, h⟩) (by omega) m_MO_begin ml_MO_362 im_MO_begin se_MO_begin c_MO h80.2.2 (Nat.le_of_ble_eq_true rfl) d_MO_readEscape_27 rfl ?_
    intro v G56 hq
    rcases hq with ⟨MK257, hv, hfk, hlk, hsk, hN80, hN93, hq58, hq59⟩
    cases hv
    have h84 := hfk.get h84 (by decide)
    have h87 := hfk.get h87 (by decide)
    have h88 := hfk.get h88 (by decide)
    have h81 := hfk.get h81 (by decide)
    have h82 := hfk.get h82 (by decide)
    have h91 := hfk.get h91 (by decide)
    have h92 := hfk.get h92 (by decide)
    have h110 := hfk.get h110 (by decide)
    have h111 := hfk.get h111 (by decide)
    have h94 := hfk.get h94 (by decide)
    have h95 := hfk.get h95 (by decide)
    have h96 := hfk.get h96 (by decide)
    have h97 := hfk.get h97 (by decide)
    have h98 := hfk.get h98 (by decide)
    have h99 := hfk.get h99 (by decide)
    have h100 := hfk.get h100 (by decide)
    have h101 := hfk.get h101 (by decide)
    have h90 := hfk.get h90 (by decide)
    have h89 := hfk.get h89 (by decide)
    have h105 := hfk.get h105 (by decide)
    have h106 := hfk.get h106 (by decide)
    have h107 := hfk.get h107 (by decide)
    have h108 := hfk.get h108 (by decide)
    have h109 := hfk.get h109 (by decide)
    have h102 := hfk.get h102 (by decide)
    have h103 := hfk.get h103 (by decide)
    have h104 := hfk.get h104 (by decide)
    have hfr := hfr.tr hfk (by decide)
    have hlen := hlk.trans hlen
    have hsl := hsk.trans hsl
    have h80 := hN80
    have h93 := hN93
    change ab_W _ _ _ G56 30 [some (vR 80), some (vz 1)] [] _
    refine ab_aload_n d_MO_readEscape_30 rfl ?_
    refine ab_aload_n d_MO_readEscape_31 rfl ?_
    refine ab_getf (fs := mof m_thrown m_taped m_length m_out m_wide 0 m_sets m_ranges m_nodes a212 m_flags m_fault m_place m_numbered m_depth v213 nt214 m_least0 m_most0 m_slot m_work m_got m_rowMany m_charAt m_charWide m_trail m_isMatch m_matchGroups m_allFrom m_allBefore m_founds m_pieces m_writtenMany m_templateWide m_tooMuch) f_MO_307 d_MO_readEscape_32 h80.2.2 rfl ?_
    refine ab_aload_n d_MO_readEscape_35 rfl ?_
    refine ab_getf (fs := mof m_thrown m_taped m_length m_out m_wide 0 m_sets m_ranges m_nodes a212 m_flags m_fault m_place m_numbered m_depth v213 nt214 m_least0 m_most0 m_slot m_work m_got m_rowMany m_charAt m_charWide m_trail m_isMatch m_matchGroups m_allFrom m_allBefore m_founds m_pieces m_writtenMany m_templateWide m_tooMuch) f_MO_319 d_MO_readEscape_36 h80.2.2 rfl ?_
    refine ab_callV (d' := d - 1) (as := [vz v213, vz nt214]) (st := []) (r := _) (z_MO_gatherNamed (o := o) (m_thrown := m_thrown) (m_taped := m_taped) (m_length := m_length) (m_out := m_out) (m_wide := m_wide) (m_gathered := 0) (m_sets := m_sets) (m_ranges := m_ranges) (m_nodes := m_nodes) (m_at := a212) (m_flags := m_flags) (m_fault := m_fault) (m_place := m_place) (m_numbered := m_numbered) (m_depth := m_depth) (m_value := v213) (m_isNot := nt214) (m_least0 := m_least0) (m_most0 := m_most0) (m_slot := m_slot) (m_work := m_work) (m_got := m_got) (m_rowMany := m_rowMany) (m_charAt := m_charAt) (m_charWide := m_charWide) (m_trail := m_trail) (m_isMatch := m_isMatch) (m_matchGroups := m_matchGroups) (m_allFrom := m_allFrom) (m_allBefore := m_allBefore) (m_founds := m_founds) (m_pieces := m_pieces) (m_writtenMany := m_writtenMany) (m_templateWide := m_templateWide) (m_tooMuch := m_tooMuch) (LO := LO) (HI := HI) (MK := MK257) (P := (fun _ => False)) (x := 0) (w := v213) (nt := nt214) (mm := 0) h80 h87 h88 h81 h82 (by omega) (by omega) hq59 (lfc_0 (fun _ h => h)) (by omega)) (fun oc G2 h => by rcases h with ⟨_, _, _, _, h, _⟩ <;> exact ⟨_, h⟩) (by omega) m_MO_gatherNamed ml_MO_337 im_MO_gatherNamed se_MO_gatherNamed c_MO h80.2.2 (Nat.le_of_ble_eq_true rfl) d_MO_readEscape_39 rfl ?_
    intro v G60 hq
    rcases hq with ⟨g261, LO262, HI263, P264, hv, hfk, hlk, hsk, hN80, hN87, hN88, hq65, hq66, hq67, hq68, hq69⟩
    cases hv
    have h84 := hfk.get h84 (by decide)
    have h93 := hfk.get h93 (by decide)
    have h81 := hfk.get h81 (by decide)
    have h82 := hfk.get h82 (by decide)
    have h91 := hfk.get h91 (by decide)
    have h92 := hfk.get h92 (by decide)
    have h110 := hfk.get h110 (by decide)
    have h111 := hfk.get h111 (by decide)
    have h94 := hfk.get h94 (by decide)
    have h95 := hfk.get h95 (by decide)
    have h96 := hfk.get h96 (by decide)
    have h97 := hfk.get h97 (by decide)
    have h98 := hfk.get h98 (by decide)
    have h99 := hfk.get h99 (by decide)
    have h100 := hfk.get h100 (by decide)
    have h101 := hfk.get h101 (by decide)
    have h90 := hfk.get h90 (by decide)
    have h89 := hfk.get h89 (by decide)
    have h105 := hfk.get h105 (by decide)
    have h106 := hfk.get h106 (by decide)
    have h107 := hfk.get h107 (by decide)
    have h108 := hfk.get h108 (by decide)
    have h109 := hfk.get h109 (by decide)
    have h102 := hfk.get h102 (by decide)
    have h103 := hfk.get h103 (by decide)
    have h104 := hfk.get h104 (by decide)
    have hfr := hfr.tr hfk (by decide)
    have hlen := hlk.trans hlen
    have hsl := hsk.trans hsl
    have h80 := hN80
    have h87 := hN87
    have h88 := hN88
    change ab_W _ _ _ G60 42 [some (vR 80), some (vz 1)] [] _
    refine ab_aload_n d_MO_readEscape_42 rfl ?_
    refine ab_aload_n d_MO_readEscape_43 rfl ?_
    refine ab_aload_n d_MO_readEscape_44 rfl ?_
    refine zz_iconst d_MO_readEscape_45 ?_
    refine ab_callV (d' := d - 1) (as := [vz 0]) (st := [vR 80, vR 80]) (r := _) (z_MO_close (o := o) (m_thrown := m_thrown) (m_taped := m_taped) (m_length := m_length) (m_out := m_out) (m_wide := m_wide) (m_gathered := g261) (m_sets := m_sets) (m_ranges := m_ranges) (m_nodes := m_nodes) (m_at := a212) (m_flags := m_flags) (m_fault := m_fault) (m_place := m_place) (m_numbered := m_numbered) (m_depth := m_depth) (m_value := v213) (m_isNot := nt214) (m_least0 := m_least0) (m_most0 := m_most0) (m_slot := m_slot) (m_work := m_work) (m_got := m_got) (m_rowMany := m_rowMany) (m_charAt := m_charAt) (m_charWide := m_charWide) (m_trail := m_trail) (m_isMatch := m_isMatch) (m_matchGroups := m_matchGroups) (m_allFrom := m_allFrom) (m_allBefore := m_allBefore) (m_founds := m_founds) (m_pieces := m_pieces) (m_writtenMany := m_writtenMany) (m_templateWide := m_templateWide) (m_tooMuch := m_tooMuch) (LO := LO262) (HI := HI263) (MK := MK257) (RL := RL) (RH := RH) (SA := SA) (SM := SM) (P := P264) (nt := 0) (mm := (0 + g261 - 0)) h80 h87 h88 h93 h91 h92 h89 h90 (by omega) hq58 (by omega) hq67 hq68 jrl jrh (by omega)) (fun oc G2 h => by rcases h with ⟨_, _, _, _, _, _, h, _⟩ <;> exact ⟨_, h⟩) (by omega) m_MO_close ml_MO_368 im_MO_close se_MO_close c_MO h80.2.2 (Nat.le_of_ble_eq_true rfl) d_MO_readEscape_46 rfl ?_
    intro v G70 hq
    rcases hq with ⟨g271, r272, LO273, HI274, RL275, RH276, hv, hfk, hlk, hsk, hN80, hN87, hN88, hN91, hN92, hN89, hN90, hq77, hq78, hq79, hq80, hq81⟩
    cases hv
    have h84 := hfk.get h84 (by decide)
    have h93 := hfk.get h93 (by decide)
    have h81 := hfk.get h81 (by decide)
    have h82 := hfk.get h82 (by decide)
    have h110 := hfk.get h110 (by decide)
    have h111 := hfk.get h111 (by decide)
    have h94 := hfk.get h94 (by decide)
    have h95 := hfk.get h95 (by decide)
    have h96 := hfk.get h96 (by decide)
    have h97 := hfk.get h97 (by decide)
    have h98 := hfk.get h98 (by decide)
    have h99 := hfk.get h99 (by decide)
    have h100 := hfk.get h100 (by decide)
    have h101 := hfk.get h101 (by decide)
    have h105 := hfk.get h105 (by decide)
    have h106 := hfk.get h106 (by decide)
    have h107 := hfk.get h107 (by decide)
    have h108 := hfk.get h108 (by decide)
    have h109 := hfk.get h109 (by decide)
    have h102 := hfk.get h102 (by decide)
    have h103 := hfk.get h103 (by decide)
    have h104 := hfk.get h104 (by decide)
    have hfr := hfr.tr hfk (by decide)
    have hlen := hlk.trans hlen
    have hsl := hsk.trans hsl
    have h80 := hN80
    have h87 := hN87
    have h88 := hN88
    have h91 := hN91
    have h92 := hN92
    have h89 := hN89
    have h90 := hN90
    change ab_W _ _ _ G70 49 [some (vR 80), some (vz 1)] [vz m_sets, vR 80, vR 80] _
    refine zz_iconst d_MO_readEscape_49 ?_
    refine ab_callV (d' := d - 1) (as := [vz m_sets, vz 0]) (st := [vR 80]) (r := _) (z_MO_setNode (o := o) (m_thrown := m_thrown) (m_taped := m_taped) (m_length := m_length) (m_out := m_out) (m_wide := m_wide) (m_gathered := g271) (m_sets := (m_sets + 1)) (m_ranges := r272) (m_nodes := m_nodes) (m_at := a212) (m_flags := m_flags) (m_fault := m_fault) (m_place := m_place) (m_numbered := m_numbered) (m_depth := m_depth) (m_value := v213) (m_isNot := nt214) (m_least0 := m_least0) (m_most0 := m_most0) (m_slot := m_slot) (m_work := m_work) (m_got := m_got) (m_rowMany := m_rowMany) (m_charAt := m_charAt) (m_charWide := m_charWide) (m_trail := m_trail) (m_isMatch := m_isMatch) (m_matchGroups := m_matchGroups) (m_allFrom := m_allFrom) (m_allBefore := m_allBefore) (m_founds := m_founds) (m_pieces := m_pieces) (m_writtenMany := m_writtenMany) (m_templateWide := m_templateWide) (m_tooMuch := m_tooMuch) (K := K) (O := O) (Fi := Fi) (Be := Be) (Z := Z) (SM := (zu SM m_sets (r272 - m_ranges))) (s := m_sets) (on := 0) h80 h90 h94 h95 h96 h97 h100 (by omega) (by omega) (rgs_zu jsm (by omega)) (by omega)) (fun oc G2 h => by rcases h with ⟨_, h, _⟩ <;> exact ⟨_, h⟩) (by omega) m_MO_setNode ml_MO_371 im_MO_setNode se_MO_setNode c_MO h80.2.2 (Nat.le_of_ble_eq_true rfl) d_MO_readEscape_50 rfl ?_
    intro v G82 hq
    rcases hq with ⟨z283, hv, hfk, hlk, hsk, hN80, hN94, hN95, hN96, hN97, hN100, hq84⟩
    cases hv
    have h84 := hfk.get h84 (by decide)
    have h87 := hfk.get h87 (by decide)
    have h88 := hfk.get h88 (by decide)
    have h93 := hfk.get h93 (by decide)
    have h81 := hfk.get h81 (by decide)
    have h82 := hfk.get h82 (by decide)
    have h91 := hfk.get h91 (by decide)
    have h92 := hfk.get h92 (by decide)
    have h110 := hfk.get h110 (by decide)
    have h111 := hfk.get h111 (by decide)
    have h98 := hfk.get h98 (by decide)
    have h99 := hfk.get h99 (by decide)
    have h101 := hfk.get h101 (by decide)
    have h90 := hfk.get h90 (by decide)
    have h89 := hfk.get h89 (by decide)
    have h105 := hfk.get h105 (by decide)
    have h106 := hfk.get h106 (by decide)
    have h107 := hfk.get h107 (by decide)
    have h108 := hfk.get h108 (by decide)
    have h109 := hfk.get h109 (by decide)
    have h102 := hfk.get h102 (by decide)
    have h103 := hfk.get h103 (by decide)
    have h104 := hfk.get h104 (by decide)
    have hfr := hfr.tr hfk (by decide)
    have hlen := hlk.trans hlen
    have hsl := hsk.trans hsl
    have h80 := hN80
    have h94 := hN94
    have h95 := hN95
    have h96 := hN96
    have h97 := hN97
    have h100 := hN100
    change ab_W _ _ _ G82 53 [some (vR 80), some (vz 1)] [vz m_nodes, vR 80] _
    have hsz_ : zu SM m_sets (r272 - m_ranges) m_sets = (r272 - m_ranges) := zu_self _ _ _
    have ptrI_0 : trI o G82 0 (m_nodes + 1) (m_sets + 1) (m_depth + 1) m_nodes 0 6 ((a1_, b1_, c1_, d1_, e1_) :: t1_) rp ls z283 (fun s => if s = m_sets then (clno 0 P264) else SV s) ((ao1_, ro1_) :: ts1_) ro vv (mnS (clno 0 P264)) RL275 RH276 r272 0 0 := ⟨(zu K m_nodes 1), (zu O m_nodes m_sets), (zu Fi m_nodes (-1)), (zu Be m_nodes (-1)), Le, Mo, (zu Z m_nodes z283), LZ, (zu SM m_sets (r272 - m_ranges)), (zu SA m_sets m_ranges), QF, QL, AF, AL, SD, OA, OF, ON, h94, h95, h96, h97, h98, h99, h100, h101, h90, h89, h105, h106, h107, h108, h109, h102, h103, h104, (rgs_zu jk (by omega)), (rgs_zu jo (by omega)), (rgs_zu jfi (by omega)), (rgs_zu jbe (by omega)), jle, jmo, (rgs_zu jz (by omega)), jlz, (rgs_zu jsm (by omega)), (rgs_zu jsa (by omega)), jqf, jql, jaf, jal, jsd, joa, jof, jon, (rtk_leaf (rtk_ns (S := (clno 0 P264)) jt) (by omega) (Or.inr (Or.inl ⟨rfl, by omega, by omega, by omega, by rw [zu_self]; omega⟩)) (Or.inr (Or.inl ⟨rfl, mnS_ns (SV := SV)⟩))), (by omega), (fun h => absurd h (by decide)), (fun h => absurd h (by decide)), (fun h => absurd h (by decide)), (fun h => absurd h (by decide)), (fun _ => by rw [zu_self]; decide), (fun h => absurd h (by decide)), (sas_s jss (by omega)), (svR_s jsv hq81.1 hq81.2 hq80 (by omega))⟩
    refine zz_iconst d_MO_readEscape_53 ?_
    refine ab_callV (d' := d - 1) (as := [vz m_nodes, vz 1]) (st := []) (r := _) (z1_MO_part (o := o) (m_thrown := m_thrown) (m_taped := m_taped) (m_length := m_length) (m_out := m_out) (m_wide := m_wide) (m_gathered := g271) (m_sets := (m_sets + 1)) (m_ranges := r272) (m_nodes := (m_nodes + 1)) (m_at := a212) (m_flags := m_flags) (m_fault := m_fault) (m_place := m_place) (m_numbered := m_numbered) (m_depth := m_depth) (m_value := v213) (m_isNot := nt214) (m_least0 := m_least0) (m_most0 := m_most0) (m_slot := m_slot) (m_work := m_work) (m_got := m_got) (m_rowMany := m_rowMany) (m_charAt := m_charAt) (m_charWide := m_charWide) (m_trail := m_trail) (m_isMatch := m_isMatch) (m_matchGroups := m_matchGroups) (m_allFrom := m_allFrom) (m_allBefore := m_allBefore) (m_founds := m_founds) (m_pieces := m_pieces) (m_writtenMany := m_writtenMany) (m_templateWide := m_templateWide) (m_tooMuch := m_tooMuch) (x := m_nodes) (dh := 0) (rp := rp) (ls := ls) (dz := z283) (SV := (fun s => if s = m_sets then (clno 0 P264) else SV s)) (ro := ro) (vv := vv) (dv := (mnS (clno 0 P264))) (a1_ := a1_) (b1_ := b1_) (c1_ := c1_) (d1_ := d1_) (e1_ := e1_) (nu9 := 0) (fo9 := 0) (t1_ := t1_) (ao1_ := ao1_) (ro1_ := ro1_) (ts1_ := ts1_) (RL := RL275) (RH := RH276) h80 ptrI_0 (by omega) (by omega) (by omega) (by omega)) (fun oc G2 h => by rcases h with ⟨h, _⟩ <;> exact ⟨_, h⟩) (by omega) m_MO_part ml_MO_375 im_MO_part se_MO_part c_MO h80.2.2 (Nat.le_of_ble_eq_true rfl) d_MO_readEscape_54 rfl ?_
    intro v G85 hq
    rcases hq with ⟨hv, hfk, hlk, hsk, pNtrI_0⟩
    cases hv
    have h80 := hfk.get h80 (by decide)
    have h84 := hfk.get h84 (by decide)
    have h87 := hfk.get h87 (by decide)
    have h88 := hfk.get h88 (by decide)
    have h93 := hfk.get h93 (by decide)
    have h81 := hfk.get h81 (by decide)
    have h82 := hfk.get h82 (by decide)
    have h91 := hfk.get h91 (by decide)
    have h92 := hfk.get h92 (by decide)
    have h110 := hfk.get h110 (by decide)
    have h111 := hfk.get h111 (by decide)
    have ptrI_0 := pNtrI_0
    have hfr := hfr.tr hfk (by decide)
    have hlen := hlk.trans hlen
    have hsl := hsk.trans hsl
    change ab_W _ _ _ G85 57 [some (vR 80), some (vz 1)] [] _
    refine ab_goto (tgt := 100) d_MO_readEscape_57 (by decide) ?_
    refine ab_vret rfl d_MO_readEscape_100 ?_
    rw [hQ]; exact (Or.inl ⟨_, _, _, _, _, _, _, _, _, _, z283, _, _, _, _, _, (fun s => if s = m_sets then (clno 0 P264) else SV s), (mnS (clno 0 P264)), rfl, hfr, hlen, hsl, h80, h87, h88, h93, h91, h92, h110, h111, ptrI_0, (by omega), (by first | exact hq58 | exact rgs_w hq58 (by omega)), (by first | exact hq77 | exact rgs_w hq77 (by omega)), (by first | exact hq78 | exact rgs_w hq78 (by omega)), (by exact Or.inr (Or.inl ⟨by omega, _, _, hq18, kdz_of hq80 (by omega) (by omega) hq69 (by omega)⟩)), (by exact Or.inr (Or.inl ⟨by omega, _, _, hq18, kdv_of (by omega) (by omega) hq69⟩))⟩)
  · cases hv
    have h84 := hfk.get h84 (by decide)
    have h87 := hfk.get h87 (by decide)
    have h88 := hfk.get h88 (by decide)
    have h93 := hfk.get h93 (by decide)
    have h81 := hfk.get h81 (by decide)
    have h82 := hfk.get h82 (by decide)
    have h91 := hfk.get h91 (by decide)
    have h92 := hfk.get h92 (by decide)
    have h110 := hfk.get h110 (by decide)
    have h111 := hfk.get h111 (by decide)
    have ptrI_0 := trI.fr hfk ptrI_0 (by decide) (by decide) (by decide) (by decide) (by decide) (by decide) (by decide) (by decide) (by decide) (by decide) (by decide) (by decide) (by decide) (by decide) (by decide) (by decide) (by decide) (by decide)
    have hfr := hfr.tr hfk (by decide)
    have hlen := hlk.trans hlen
    have hsl := hsk.trans hsl
    have h80 := hN80
    change ab_W _ _ _ G1 5 [some (vR 80), none] [vz 2] _
    refine ab_istore_n d_MO_readEscape_5 (Nat.le_of_ble_eq_true rfl) (Nat.le_of_ble_eq_true rfl) rfl ?_
    change ab_W _ _ _ G1 6 [some (vR 80), some (vz 2)] [] _
    refine ab_iload_n d_MO_readEscape_6 rfl ?_
    refine zz_if_ne (tgt := 21) d_MO_readEscape_7 (by decide) (by decide) (fun c86 => ?_) (fun c86 => absurd c86 (by decide))
    refine ab_iload_n d_MO_readEscape_21 rfl ?_
    refine zz_iconst d_MO_readEscape_22 ?_
    refine zz_icmp_ne (tgt := 60) d_MO_readEscape_23 (by decide) (by decide) (by decide) (fun c87 => ?_) (fun c87 => absurd c87 (by decide))
    refine ab_iload_n d_MO_readEscape_60 rfl ?_
    refine zz_iconst d_MO_readEscape_61 ?_
    refine zz_icmp_ne (tgt := 83) d_MO_readEscape_62 (by decide) (by decide) (by decide) (fun c88 => absurd c88 (by decide)) (fun c88 => ?_)
    obtain ⟨K, O, Fi, Be, Le, Mo, Z, LZ, SM, SA, QF, QL, AF, AL, SD, OA, OF, ON, h94, h95, h96, h97, h98, h99, h100, h101, h90, h89, h105, h106, h107, h108, h109, h102, h103, h104, jk, jo, jfi, jbe, jle, jmo, jz, jlz, jsm, jsa, jqf, jql, jaf, jal, jsd, joa, jof, jon, jt, cnd, cre, crs, crz, ck5, ck6, ck7, jss, jsv⟩ := ptrI_0
    refine ab_aload_n d_MO_readEscape_65 rfl ?_
    refine ab_aload_n d_MO_readEscape_66 rfl ?_
    refine zz_iconst d_MO_readEscape_67 ?_
    refine ab_aload_n d_MO_readEscape_68 rfl ?_
    refine ab_getf (fs := mof m_thrown m_taped m_length m_out m_wide m_gathered m_sets m_ranges m_nodes (m_at + 2) m_flags m_fault m_place m_numbered m_depth v219 m_isNot m_least0 m_most0 m_slot m_work m_got m_rowMany m_charAt m_charWide m_trail m_isMatch m_matchGroups m_allFrom m_allBefore m_founds m_pieces m_writtenMany m_templateWide m_tooMuch) f_MO_307 d_MO_readEscape_69 h80.2.2 rfl ?_
    refine zz_lconst d_MO_readEscape_72 ?_
    change ab_W _ _ _ G1 73 [some (vR 80), some (vz 2)] [vj 1, vz v219, vz 3, vR 80, vR 80] _
    refine ab_callV (d' := d - 1) (as := [vz 3, vz v219, vj 1]) (st := [vR 80]) (r := _) (z_MO_node (o := o) (m_thrown := m_thrown) (m_taped := m_taped) (m_length := m_length) (m_out := m_out) (m_wide := m_wide) (m_gathered := m_gathered) (m_sets := m_sets) (m_ranges := m_ranges) (m_nodes := m_nodes) (m_at := (m_at + 2)) (m_flags := m_flags) (m_fault := m_fault) (m_place := m_place) (m_numbered := m_numbered) (m_depth := m_depth) (m_value := v219) (m_isNot := m_isNot) (m_least0 := m_least0) (m_most0 := m_most0) (m_slot := m_slot) (m_work := m_work) (m_got := m_got) (m_rowMany := m_rowMany) (m_charAt := m_charAt) (m_charWide := m_charWide) (m_trail := m_trail) (m_isMatch := m_isMatch) (m_matchGroups := m_matchGroups) (m_allFrom := m_allFrom) (m_allBefore := m_allBefore) (m_founds := m_founds) (m_pieces := m_pieces) (m_writtenMany := m_writtenMany) (m_templateWide := m_templateWide) (m_tooMuch := m_tooMuch) (K := K) (O := O) (Fi := Fi) (Be := Be) (Z := Z) (k := 3) (w := v219) (zs := 1) h80 h94 h95 h96 h97 h100 (by omega) (by omega)) (fun oc G2 h => by rcases h with ⟨h, _⟩ <;> exact ⟨_, h⟩) (by omega) m_MO_node ml_MO_269 im_MO_node se_MO_node c_MO h80.2.2 (Nat.le_of_ble_eq_true rfl) d_MO_readEscape_73 rfl ?_
    intro v G89 hq
    rcases hq with ⟨hv, hfk, hlk, hsk, hN80, hN94, hN95, hN96, hN97, hN100⟩
    cases hv
    have h84 := hfk.get h84 (by decide)
    have h87 := hfk.get h87 (by decide)
    have h88 := hfk.get h88 (by decide)
    have h93 := hfk.get h93 (by decide)
    have h81 := hfk.get h81 (by decide)
    have h82 := hfk.get h82 (by decide)
    have h91 := hfk.get h91 (by decide)
    have h92 := hfk.get h92 (by decide)
    have h110 := hfk.get h110 (by decide)
    have h111 := hfk.get h111 (by decide)
    have h98 := hfk.get h98 (by decide)
    have h99 := hfk.get h99 (by decide)
    have h101 := hfk.get h101 (by decide)
    have h90 := hfk.get h90 (by decide)
    have h89 := hfk.get h89 (by decide)
    have h105 := hfk.get h105 (by decide)
    have h106 := hfk.get h106 (by decide)
    have h107 := hfk.get h107 (by decide)
    have h108 := hfk.get h108 (by decide)
    have h109 := hfk.get h109 (by decide)
    have h102 := hfk.get h102 (by decide)
    have h103 := hfk.get h103 (by decide)
    have h104 := hfk.get h104 (by decide)
    have hfr := hfr.tr hfk (by decide)
    have hlen := hlk.trans hlen
    have hsl := hsk.trans hsl
    have h80 := hN80
    have h94 := hN94
    have h95 := hN95
    have h96 := hN96
    have h97 := hN97
    have h100 := hN100
    change ab_W _ _ _ G89 76 [some (vR 80), some (vz 2)] [vz m_nodes, vR 80] _
    have ptrI_0 : trI o G89 0 (m_nodes + 1) m_sets (m_depth + 1) m_nodes 0 6 ((a1_, b1_, c1_, d1_, e1_) :: t1_) rp ls 1 SV ((ao1_, ro1_) :: ts1_) ro vv (mnQ (asq v219)) RL RH m_ranges 0 0 := ⟨(zu K m_nodes 3), (zu O m_nodes v219), (zu Fi m_nodes (-1)), (zu Be m_nodes (-1)), Le, Mo, (zu Z m_nodes 1), LZ, SM, SA, QF, QL, AF, AL, SD, OA, OF, ON, h94, h95, h96, h97, h98, h99, h100, h101, h90, h89, h105, h106, h107, h108, h109, h102, h103, h104, (rgs_zu jk (by omega)), (rgs_zu jo (by omega)), (rgs_zu jfi (by omega)), (rgs_zu jbe (by omega)), jle, jmo, (rgs_zu jz (by omega)), jlz, jsm, jsa, jqf, jql, jaf, jal, jsd, joa, jof, jon, (rtk_leaf jt (by omega) (Or.inr (Or.inr (Or.inr ⟨rfl, rfl, by omega, by omega⟩))) (Or.inr (Or.inr (Or.inr ⟨rfl, rfl⟩)))), (by omega), (fun h => absurd h (by decide)), (fun h => absurd h (by decide)), (fun h => absurd h (by decide)), (fun h => absurd h (by decide)), (fun _ => by rw [zu_self]; decide), (fun h => absurd h (by decide)), jss, jsv⟩
    refine zz_iconst d_MO_readEscape_76 ?_
    refine ab_callV (d' := d - 1) (as := [vz m_nodes, vz 1]) (st := []) (r := _) (z1_MO_part (o := o) (m_thrown := m_thrown) (m_taped := m_taped) (m_length := m_length) (m_out := m_out) (m_wide := m_wide) (m_gathered := m_gathered) (m_sets := m_sets) (m_ranges := m_ranges) (m_nodes := (m_nodes + 1)) (m_at := (m_at + 2)) (m_flags := m_flags) (m_fault := m_fault) (m_place := m_place) (m_numbered := m_numbered) (m_depth := m_depth) (m_value := v219) (m_isNot := m_isNot) (m_least0 := m_least0) (m_most0 := m_most0) (m_slot := m_slot) (m_work := m_work) (m_got := m_got) (m_rowMany := m_rowMany) (m_charAt := m_charAt) (m_charWide := m_charWide) (m_trail := m_trail) (m_isMatch := m_isMatch) (m_matchGroups := m_matchGroups) (m_allFrom := m_allFrom) (m_allBefore := m_allBefore) (m_founds := m_founds) (m_pieces := m_pieces) (m_writtenMany := m_writtenMany) (m_templateWide := m_templateWide) (m_tooMuch := m_tooMuch) (x := m_nodes) (dh := 0) (rp := rp) (ls := ls) (dz := 1) (SV := SV) (ro := ro) (vv := vv) (dv := (mnQ (asq v219))) (a1_ := a1_) (b1_ := b1_) (c1_ := c1_) (d1_ := d1_) (e1_ := e1_) (nu9 := 0) (fo9 := 0) (t1_ := t1_) (ao1_ := ao1_) (ro1_ := ro1_) (ts1_ := ts1_) (RL := RL) (RH := RH) h80 ptrI_0 (by omega) (by omega) (by omega) (by omega)) (fun oc G2 h => by rcases h with ⟨h, _⟩ <;> exact ⟨_, h⟩) (by omega) m_MO_part ml_MO_375 im_MO_part se_MO_part c_MO h80.2.2 (Nat.le_of_ble_eq_true rfl) d_MO_readEscape_77 rfl ?_
    intro v G90 hq
    rcases hq with ⟨hv, hfk, hlk, hsk, pNtrI_0⟩
    cases hv
    have h80 := hfk.get h80 (by decide)
    have h84 := hfk.get h84 (by decide)
    have h87 := hfk.get h87 (by decide)
    have h88 := hfk.get h88 (by decide)
    have h93 := hfk.get h93 (by decide)
    have h81 := hfk.get h81 (by decide)
    have h82 := hfk.get h82 (by decide)
    have h91 := hfk.get h91 (by decide)
    have h92 := hfk.get h92 (by decide)
    have h110 := hfk.get h110 (by decide)
    have h111 := hfk.get h111 (by decide)
    have ptrI_0 := pNtrI_0
    have hfr := hfr.tr hfk (by decide)
    have hlen := hlk.trans hlen
    have hsl := hsk.trans hsl
    change ab_W _ _ _ G90 80 [some (vR 80), some (vz 2)] [] _
    refine ab_goto (tgt := 100) d_MO_readEscape_80 (by decide) ?_
    refine ab_vret rfl d_MO_readEscape_100 ?_
    rw [hQ]; exact (Or.inl ⟨_, _, _, _, _, _, _, _, _, _, 1, _, _, _, _, _, SV, (mnQ (asq v219)), rfl, hfr, hlen, hsl, h80, h87, h88, h93, h91, h92, h110, h111, ptrI_0, (by omega), (by first | exact jmk | exact rgs_w jmk (by omega)), (by first | exact jrl | exact rgs_w jrl (by omega)), (by first | exact jrh | exact rgs_w jrh (by omega)), (by obtain ⟨v9, y1, y2, y3⟩ := hq21; exact Or.inl ⟨by omega, v9, y1, Or.inr ⟨by omega, rfl⟩⟩), (by obtain ⟨v9, y1, y2, y3⟩ := hq21; exact Or.inl ⟨by omega, v9, y1, Or.inr (Or.inr ⟨y2, by rw [y3]⟩)⟩)⟩)
  · cases hv
    have h84 := hfk.get h84 (by decide)
    have h87 := hfk.get h87 (by decide)
    have h88 := hfk.get h88 (by decide)
    have h93 := hfk.get h93 (by decide)
    have h81 := hfk.get h81 (by decide)
    have h82 := hfk.get h82 (by decide)
    have h91 := hfk.get h91 (by decide)
    have h92 := hfk.get h92 (by decide)
    have h110 := hfk.get h110 (by decide)
    have h111 := hfk.get h111 (by decide)
    have ptrI_0 := trI.fr hfk ptrI_0 (by decide) (by decide) (by decide) (by decide) (by decide) (by decide) (by decide) (by decide) (by decide) (by decide) (by decide) (by decide) (by decide) (by decide) (by decide) (by decide) (by decide) (by decide)
    have hfr := hfr.tr hfk (by decide)
    have hlen := hlk.trans hlen
    have hsl := hsk.trans hsl
    have h80 := hN80
    change ab_W _ _ _ G1 5 [some (vR 80), none] [vz 3] _
    refine ab_istore_n d_MO_readEscape_5 (Nat.le_of_ble_eq_true rfl) (Nat.le_of_ble_eq_true rfl) rfl ?_
    change ab_W _ _ _ G1 6 [some (vR 80), some (vz 3)] [] _
    refine ab_iload_n d_MO_readEscape_6 rfl ?_
    refine zz_if_ne (tgt := 21) d_MO_readEscape_7 (by decide) (by decide) (fun c91 => ?_) (fun c91 => absurd c91 (by decide))
    refine ab_iload_n d_MO_readEscape_21 rfl ?_
    refine zz_iconst d_MO_readEscape_22 ?_
    refine zz_icmp_ne (tgt := 60) d_MO_readEscape_23 (by decide) (by decide) (by decide) (fun c92 => ?_) (fun c92 => absurd c92 (by decide))
    refine ab_iload_n d_MO_readEscape_60 rfl ?_
    refine zz_iconst d_MO_readEscape_61 ?_
    refine zz_icmp_ne (tgt := 83) d_MO_readEscape_62 (by decide) (by decide) (by decide) (fun c93 => ?_) (fun c93 => absurd c93 (by decide))
    refine ab_iload_n d_MO_readEscape_83 rfl ?_
    refine zz_iconst d_MO_readEscape_84 ?_
    refine zz_icmp_ne (tgt := 100) d_MO_readEscape_85 (by decide) (by decide) (by decide) (fun c94 => absurd c94 (by decide)) (fun c94 => ?_)
    obtain ⟨K, O, Fi, Be, Le, Mo, Z, LZ, SM, SA, QF, QL, AF, AL, SD, OA, OF, ON, h94, h95, h96, h97, h98, h99, h100, h101, h90, h89, h105, h106, h107, h108, h109, h102, h103, h104, jk, jo, jfi, jbe, jle, jmo, jz, jlz, jsm, jsa, jqf, jql, jaf, jal, jsd, joa, jof, jon, jt, cnd, cre, crs, crz, ck5, ck6, ck7, jss, jsv⟩ := ptrI_0
    refine ab_aload_n d_MO_readEscape_88 rfl ?_
    refine ab_aload_n d_MO_readEscape_89 rfl ?_
    refine zz_iconst d_MO_readEscape_90 ?_
    refine zz_iconst d_MO_readEscape_91 ?_
    refine zz_lconst d_MO_readEscape_92 ?_
    change ab_W _ _ _ G1 93 [some (vR 80), some (vz 3)] [vj 1, vz 0, vz 2, vR 80, vR 80] _
    refine ab_callV (d' := d - 1) (as := [vz 2, vz 0, vj 1]) (st := [vR 80]) (r := _) (z_MO_node (o := o) (m_thrown := m_thrown) (m_taped := m_taped) (m_length := m_length) (m_out := m_out) (m_wide := m_wide) (m_gathered := m_gathered) (m_sets := m_sets) (m_ranges := m_ranges) (m_nodes := m_nodes) (m_at := (m_at + 2)) (m_flags := m_flags) (m_fault := m_fault) (m_place := m_place) (m_numbered := m_numbered) (m_depth := m_depth) (m_value := m_value) (m_isNot := m_isNot) (m_least0 := m_least0) (m_most0 := m_most0) (m_slot := m_slot) (m_work := m_work) (m_got := m_got) (m_rowMany := m_rowMany) (m_charAt := m_charAt) (m_charWide := m_charWide) (m_trail := m_trail) (m_isMatch := m_isMatch) (m_matchGroups := m_matchGroups) (m_allFrom := m_allFrom) (m_allBefore := m_allBefore) (m_founds := m_founds) (m_pieces := m_pieces) (m_writtenMany := m_writtenMany) (m_templateWide := m_templateWide) (m_tooMuch := m_tooMuch) (K := K) (O := O) (Fi := Fi) (Be := Be) (Z := Z) (k := 2) (w := 0) (zs := 1) h80 h94 h95 h96 h97 h100 (by omega) (by omega)) (fun oc G2 h => by rcases h with ⟨h, _⟩ <;> exact ⟨_, h⟩) (by omega) m_MO_node ml_MO_269 im_MO_node se_MO_node c_MO h80.2.2 (Nat.le_of_ble_eq_true rfl) d_MO_readEscape_93 rfl ?_
    intro v G95 hq
    rcases hq with ⟨hv, hfk, hlk, hsk, hN80, hN94, hN95, hN96, hN97, hN100⟩
    cases hv
    have h84 := hfk.get h84 (by decide)
    have h87 := hfk.get h87 (by decide)
    have h88 := hfk.get h88 (by decide)
    have h93 := hfk.get h93 (by decide)
    have h81 := hfk.get h81 (by decide)
    have h82 := hfk.get h82 (by decide)
    have h91 := hfk.get h91 (by decide)
    have h92 := hfk.get h92 (by decide)
    have h110 := hfk.get h110 (by decide)
    have h111 := hfk.get h111 (by decide)
    have h98 := hfk.get h98 (by decide)
    have h99 := hfk.get h99 (by decide)
    have h101 := hfk.get h101 (by decide)
    have h90 := hfk.get h90 (by decide)
    have h89 := hfk.get h89 (by decide)
    have h105 := hfk.get h105 (by decide)
    have h106 := hfk.get h106 (by decide)
    have h107 := hfk.get h107 (by decide)
    have h108 := hfk.get h108 (by decide)
    have h109 := hfk.get h109 (by decide)
    have h102 := hfk.get h102 (by decide)
    have h103 := hfk.get h103 (by decide)
    have h104 := hfk.get h104 (by decide)
    have hfr := hfr.tr hfk (by decide)
    have hlen := hlk.trans hlen
    have hsl := hsk.trans hsl
    have h80 := hN80
    have h94 := hN94
    have h95 := hN95
    have h96 := hN96
    have h97 := hN97
    have h100 := hN100
    change ab_W _ _ _ G95 96 [some (vR 80), some (vz 3)] [vz m_nodes, vR 80] _
    have ptrI_0 : trI o G95 0 (m_nodes + 1) m_sets (m_depth + 1) m_nodes 0 6 ((a1_, b1_, c1_, d1_, e1_) :: t1_) rp ls 1 SV ((ao1_, ro1_) :: ts1_) ro vv mnA RL RH m_ranges 0 0 := ⟨(zu K m_nodes 2), (zu O m_nodes 0), (zu Fi m_nodes (-1)), (zu Be m_nodes (-1)), Le, Mo, (zu Z m_nodes 1), LZ, SM, SA, QF, QL, AF, AL, SD, OA, OF, ON, h94, h95, h96, h97, h98, h99, h100, h101, h90, h89, h105, h106, h107, h108, h109, h102, h103, h104, (rgs_zu jk (by omega)), (rgs_zu jo (by omega)), (rgs_zu jfi (by omega)), (rgs_zu jbe (by omega)), jle, jmo, (rgs_zu jz (by omega)), jlz, jsm, jsa, jqf, jql, jaf, jal, jsd, joa, jof, jon, (rtk_leaf jt (by omega) (Or.inr (Or.inr (Or.inl ⟨rfl, rfl⟩))) (Or.inr (Or.inr (Or.inl ⟨rfl, rfl⟩)))), (by omega), (fun h => absurd h (by decide)), (fun h => absurd h (by decide)), (fun h => absurd h (by decide)), (fun h => absurd h (by decide)), (fun _ => by rw [zu_self]; decide), (fun h => absurd h (by decide)), jss, jsv⟩
    refine zz_iconst d_MO_readEscape_96 ?_
    refine ab_callV (d' := d - 1) (as := [vz m_nodes, vz 1]) (st := []) (r := _) (z1_MO_part (o := o) (m_thrown := m_thrown) (m_taped := m_taped) (m_length := m_length) (m_out := m_out) (m_wide := m_wide) (m_gathered := m_gathered) (m_sets := m_sets) (m_ranges := m_ranges) (m_nodes := (m_nodes + 1)) (m_at := (m_at + 2)) (m_flags := m_flags) (m_fault := m_fault) (m_place := m_place) (m_numbered := m_numbered) (m_depth := m_depth) (m_value := m_value) (m_isNot := m_isNot) (m_least0 := m_least0) (m_most0 := m_most0) (m_slot := m_slot) (m_work := m_work) (m_got := m_got) (m_rowMany := m_rowMany) (m_charAt := m_charAt) (m_charWide := m_charWide) (m_trail := m_trail) (m_isMatch := m_isMatch) (m_matchGroups := m_matchGroups) (m_allFrom := m_allFrom) (m_allBefore := m_allBefore) (m_founds := m_founds) (m_pieces := m_pieces) (m_writtenMany := m_writtenMany) (m_templateWide := m_templateWide) (m_tooMuch := m_tooMuch) (x := m_nodes) (dh := 0) (rp := rp) (ls := ls) (dz := 1) (SV := SV) (ro := ro) (vv := vv) (dv := mnA) (a1_ := a1_) (b1_ := b1_) (c1_ := c1_) (d1_ := d1_) (e1_ := e1_) (nu9 := 0) (fo9 := 0) (t1_ := t1_) (ao1_ := ao1_) (ro1_ := ro1_) (ts1_ := ts1_) (RL := RL) (RH := RH) h80 ptrI_0 (by omega) (by omega) (by omega) (by omega)) (fun oc G2 h => by rcases h with ⟨h, _⟩ <;> exact ⟨_, h⟩) (by omega) m_MO_part ml_MO_375 im_MO_part se_MO_part c_MO h80.2.2 (Nat.le_of_ble_eq_true rfl) d_MO_readEscape_97 rfl ?_
    intro v G96 hq
    rcases hq with ⟨hv, hfk, hlk, hsk, pNtrI_0⟩
    cases hv
    have h80 := hfk.get h80 (by decide)
    have h84 := hfk.get h84 (by decide)
    have h87 := hfk.get h87 (by decide)
    have h88 := hfk.get h88 (by decide)
    have h93 := hfk.get h93 (by decide)
    have h81 := hfk.get h81 (by decide)
    have h82 := hfk.get h82 (by decide)
    have h91 := hfk.get h91 (by decide)
    have h92 := hfk.get h92 (by decide)
    have h110 := hfk.get h110 (by decide)
    have h111 := hfk.get h111 (by decide)
    have ptrI_0 := pNtrI_0
    have hfr := hfr.tr hfk (by decide)
    have hlen := hlk.trans hlen
    have hsl := hsk.trans hsl
    change ab_W _ _ _ G96 100 [some (vR 80), some (vz 3)] [] _
    refine ab_vret rfl d_MO_readEscape_100 ?_
    rw [hQ]; exact (Or.inl ⟨_, _, _, _, _, _, _, _, _, _, 1, _, _, _, _, _, SV, mnA, rfl, hfr, hlen, hsl, h80, h87, h88, h93, h91, h92, h110, h111, ptrI_0, (by omega), (by first | exact jmk | exact rgs_w jmk (by omega)), (by first | exact jrl | exact rgs_w jrl (by omega)), (by first | exact jrh | exact rgs_w jrh (by omega)), (by exact Or.inl ⟨by omega, _, hq23, Or.inr ⟨by decide, rfl⟩⟩), (by exact Or.inl ⟨by omega, _, hq23, Or.inr (Or.inl ⟨rfl, rfl⟩)⟩)⟩)
