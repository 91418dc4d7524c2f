set_option maxRecDepth 100000 in
set_option maxHeartbeats 4000000 in
theorem y_MO_read_55 {X : ab_X} {d : Nat} {Q : Outcome → ab_G → Prop} {o : Nat → Nat} {G0 : ab_G} {m_thrown : Int} {m_taped : Int} {m_length : Int} {m_out : Int} {m_slot : Int} {m_work : Int} {m_got : Int} {m_rowMany : Int} {m_charAt : Int} {m_charWide : Int} {m_trail : Int} {m_isMatch : Int} {m_matchGroups : Int} {m_allFrom : Int} {m_allBefore : Int} {m_founds : Int} {m_pieces : Int} {m_writtenMany : Int} {m_templateWide : Int} {m_tooMuch : Int} {A_tape : Int → Int} {wi : Int} (n18 : ab_n0 = 18) (cta : 0 ≤ m_taped ∧ m_taped ≤ 2000) (jtp : rgs A_tape 2000 0 255) (cwi : 0 ≤ wi ∧ wi ≤ 15) (hd : 9 ≤ d) : ∀ (mz : Nat) {G : ab_G} {m_at : Int} {m_value : Int} {m_isNot : Int} {m_wide : Int} {m_gathered : Int} {m_sets : Int} {m_ranges : Int} {m_nodes : Int} {m_flags : Int} {m_numbered : Int} {m_depth : Int} {m_least0 : Int} {m_most0 : Int} {m_fault : Int} {m_place : Int} {LO : Int → Int} {HI : Int → Int} {MK : Int → Int} {RL : Int → Int} {RH : Int → Int} {NS : Int → Int} {NM : Int → Int} {ms : Int} {a1_ : Int} {b1_ : Int} {c1_ : Int} {d1_ : Int} {e1_ : Int} {t1_ : List Fr} {rp : Int} {ls : Int} {na : Int → Int} {nl : Int → Int} {SV : Int → Int → Prop} {ao1_ : Option Sn} {ro1_ : Sn} {ts1_ : List Fs} {ro : Sn} {vv : Sn}, (cc o G 80 280 (ab_ob 12 (mof m_thrown m_taped m_length m_out m_wide m_gathered m_sets m_ranges m_nodes m_at m_flags m_fault m_place m_numbered m_depth m_value m_isNot m_least0 m_most0 m_slot m_work m_got m_rowMany m_charAt m_charWide m_trail m_isMatch m_matchGroups m_allFrom m_allBefore m_founds m_pieces m_writtenMany m_templateWide m_tooMuch))) → (cc o G 84 284 (za 2000 A_tape)) → (cc o G 87 287 (za 9000 LO)) → (cc o G 88 288 (za 9000 HI)) → (cc o G 93 293 (zb 1200 MK)) → (cc o G 81 281 (za 13 tbA)) → (cc o G 82 282 (za 66 tbT)) → (cc o G 91 291 (za 24000 RL)) → (cc o G 92 292 (za 24000 RH)) → (cc o G 110 310 (za 120 NS)) → (cc o G 111 311 (za 10 NM)) → (trI o G 0 m_nodes m_sets (m_depth + 1) (-1) 0 0 ((a1_, b1_, c1_, d1_, e1_) :: t1_) rp ls 0 SV ((ao1_, ro1_) :: ts1_) ro vv mnI RL RH m_ranges 0 0) → (0 ≤ m_fault ∧ m_fault ≤ 14 ∧ 0 ≤ m_at ∧ m_at ≤ 4000 ∧ 0 ≤ m_nodes ∧ m_nodes ≤ 4200 ∧ 0 ≤ m_sets ∧ m_sets ≤ 2100 ∧ 0 ≤ m_ranges ∧ m_ranges ≤ 24000 ∧ 0 ≤ m_depth ∧ m_depth ≤ 30 ∧ 0 ≤ m_numbered ∧ m_numbered ≤ 9 ∧ -2147483648 ≤ m_flags ∧ m_flags ≤ 2147483647 ∧ -2147483648 ≤ m_value ∧ m_value ≤ 2147483647 ∧ 0 ≤ ms) → (m_fault = 0 → m_at ≤ m_taped ∧ m_nodes + 2 * m_depth ≤ 2 * m_at ∧ m_sets ≤ m_at ∧ m_ranges ≤ 12 * m_at ∧ ms = m_taped + 1 - m_at) → (rgs MK 1200 0 1) → (rgs RL 24000 0 1114111) → (rgs RH 24000 0 1114111) → (rgs NS 120 0 255) → (rgs NM 10 0 12) → (rdJ A_tape m_taped wi m_at m_flags m_numbered na nl ((a1_, b1_, c1_, d1_, e1_) :: t1_) rp ls NS NM m_fault m_place ((ao1_, ro1_) :: ts1_) ro vv) → (fx o o [280, 287, 288, 293, 291, 292, 310, 311, 294, 295, 296, 297, 298, 299, 300, 301, 290, 289, 305, 306, 307, 308, 309, 302, 303, 304] G0 G) → (G.length = G0.length) → (ab_slots G = ab_slots G0) → (Int.toNat ms < mz) → (∀ (G2 : ab_G) (a2 : Int) (v2 : Int) (nt2 : Int) (w2 : Int) (g2 : Int) (s2 : Int) (r2 : Int) (n2 : Int) (fl2 : Int) (nu2 : Int) (d2 : Int) (le2 : Int) (mo2 : Int) (f2 : Int) (p2 : Int) (LO2 : Int → Int) (HI2 : Int → Int) (MK2 : Int → Int) (RL2 : Int → Int) (RH2 : Int → Int) (NS2 : Int → Int) (NM2 : Int → Int) (a3 : Int) (b3 : Int) (c3 : Int) (d3 : Int) (e3 : Int) (t3 : List Fr) (rp3 : Int) (ls3 : Int) (na3 : Int → Int) (nl3 : Int → Int) (SV3 : Int → Int → Prop) (ao3 : Option Sn) (ro3 : Sn) (ts3 : List Fs) (rq3 : Sn) (vv3 : Sn), (cc o G2 80 280 (ab_ob 12 (mof m_thrown m_taped m_length m_out w2 g2 s2 r2 n2 a2 fl2 f2 p2 nu2 d2 v2 nt2 le2 mo2 m_slot m_work m_got m_rowMany m_charAt m_charWide m_trail m_isMatch m_matchGroups m_allFrom m_allBefore m_founds m_pieces m_writtenMany m_templateWide m_tooMuch))) → (cc o G2 87 287 (za 9000 LO2)) → (cc o G2 88 288 (za 9000 HI2)) → (cc o G2 93 293 (zb 1200 MK2)) → (cc o G2 91 291 (za 24000 RL2)) → (cc o G2 92 292 (za 24000 RH2)) → (cc o G2 110 310 (za 120 NS2)) → (cc o G2 111 311 (za 10 NM2)) → (trI o G2 0 n2 s2 (d2 + 1) (-1) 0 0 ((a3, b3, c3, d3, e3) :: t3) rp3 ls3 0 SV3 ((ao3, ro3) :: ts3) rq3 vv3 mnI RL2 RH2 r2 0 0) → (0 ≤ f2 ∧ f2 ≤ 14 ∧ 0 ≤ a2 ∧ a2 ≤ 4000 ∧ 0 ≤ n2 ∧ n2 ≤ 4200 ∧ 0 ≤ s2 ∧ s2 ≤ 2100 ∧ 0 ≤ r2 ∧ r2 ≤ 24000 ∧ 0 ≤ d2 ∧ d2 ≤ 30 ∧ 0 ≤ nu2 ∧ nu2 ≤ 9 ∧ -2147483648 ≤ fl2 ∧ fl2 ≤ 2147483647 ∧ -2147483648 ≤ v2 ∧ v2 ≤ 2147483647) → (f2 = 0 → a2 ≤ m_taped ∧ n2 + 2 * d2 ≤ 2 * a2 ∧ s2 ≤ a2 ∧ r2 ≤ 12 * a2) → (rgs MK2 1200 0 1) → (rgs RL2 24000 0 1114111) → (rgs RH2 24000 0 1114111) → (rgs NS2 120 0 255) → (rgs NM2 10 0 12) → (rdJ A_tape m_taped wi a2 fl2 nu2 na3 nl3 ((a3, b3, c3, d3, e3) :: t3) rp3 ls3 NS2 NM2 f2 p2 ((ao3, ro3) :: ts3) rq3 vv3) → (1 ≤ f2 ∨ m_taped ≤ a2) → (fx o o [280, 287, 288, 293, 291, 292, 310, 311, 294, 295, 296, 297, 298, 299, 300, 301, 290, 289, 305, 306, 307, 308, 309, 302, 303, 304] G0 G2) → (G2.length = G0.length) → (ab_slots G2 = ab_slots G0) → ab_W X (ab_pl y_MO_read b_MO_read 3 (some (.int))) d G2 80 [some (vR 80), none, none] [] Q) → ab_W X (ab_pl y_MO_read b_MO_read 3 (some (.int))) d G 55 [some (vR 80), some (vz wi), none] [] Q := by
  intro mz
  induction mz with
  | zero => intro G m_at m_value m_isNot m_wide m_gathered m_sets m_ranges m_nodes m_flags m_numbered m_depth m_least0 m_most0 m_fault m_place LO HI MK RL RH NS NM ms a1_ b1_ c1_ d1_ e1_ t1_ rp ls na nl SV ao1_ ro1_ ts1_ ro vv h80 h84 h87 h88 h93 h81 h82 h91 h92 h110 h111 ptrI_0 ci coi jmk jrl jrh jns jnm jr hfr hlen hsl hm hk0; exact absurd hm (Nat.not_lt_zero _)
  | succ mz ih =>
    intro G m_at m_value m_isNot m_wide m_gathered m_sets m_ranges m_nodes m_flags m_numbered m_depth m_least0 m_most0 m_fault m_place LO HI MK RL RH NS NM ms a1_ b1_ c1_ d1_ e1_ t1_ rp ls na nl SV ao1_ ro1_ ts1_ ro vv h80 h84 h87 h88 h93 h81 h82 h91 h92 h110 h111 ptrI_0 ci coi jmk jrl jrh jns jnm jr hfr hlen hsl hm hk0
    refine ab_aload_n d_MO_read_55 rfl ?_
    refine ab_getf (fs := mof m_thrown m_taped m_length m_out m_wide m_gathered m_sets m_ranges m_nodes m_at m_flags m_fault m_place m_numbered m_depth m_value m_isNot m_least0 m_most0 m_slot m_work m_got m_rowMany m_charAt m_charWide m_trail m_isMatch m_matchGroups m_allFrom m_allBefore m_founds m_pieces m_writtenMany m_templateWide m_tooMuch) f_MO_273 d_MO_read_56 h80.2.2 rfl ?_
    refine zz_if_ne (tgt := 80) d_MO_read_59 (by decide) (by omega) (fun c1 => ?_) (fun c1 => ?_)
    · refine ab_less (L' := [some (vR 80), none, none]) (fun i v h => by rcases i with _ | _ | _ | i <;> first | exact h | (simp at h)) ?_
      exact hk0 _ _ _ _ _ _ _ _ _ _ _ _ _ _ _ _ _ _ _ _ _ _ _ a1_ b1_ c1_ d1_ e1_ t1_ rp ls na nl SV ao1_ ro1_ ts1_ ro vv h80 h87 h88 h93 h91 h92 h110 h111 ptrI_0 (by omega) (by intro h_; have t_ := coi h_; omega) (by first | exact jmk | exact rgs_w jmk (by omega)) (by first | exact jrl | exact rgs_w jrl (by omega)) (by first | exact jrh | exact rgs_w jrh (by omega)) (by first | exact jns | exact rgs_w jns (by omega)) (by first | exact jnm | exact rgs_w jnm (by omega)) (by exact jr) (by omega) hfr hlen hsl
    · have hoi_ := coi (by omega)
      obtain ⟨hpl_, hrp_, hfl_, hnj_⟩ := rdJ_h jr (by omega) cwi
      refine ab_aload_n d_MO_read_62 rfl ?_
      refine ab_getf (fs := mof m_thrown m_taped m_length m_out m_wide m_gathered m_sets m_ranges m_nodes m_at m_flags m_fault m_place m_numbered m_depth m_value m_isNot m_least0 m_most0 m_slot m_work m_got m_rowMany m_charAt m_charWide m_trail m_isMatch m_matchGroups m_allFrom m_allBefore m_founds m_pieces m_writtenMany m_templateWide m_tooMuch) f_MO_279 d_MO_read_63 h80.2.2 rfl ?_
      refine ab_aload_n d_MO_read_66 rfl ?_
      refine ab_getf (fs := mof m_thrown m_taped m_length m_out m_wide m_gathered m_sets m_ranges m_nodes m_at m_flags m_fault m_place m_numbered m_depth m_value m_isNot m_least0 m_most0 m_slot m_work m_got m_rowMany m_charAt m_charWide m_trail m_isMatch m_matchGroups m_allFrom m_allBefore m_founds m_pieces m_writtenMany m_templateWide m_tooMuch) f_MO_223 d_MO_read_67 h80.2.2 rfl ?_
      refine zz_icmp_ge (tgt := 80) d_MO_read_70 (by decide) (by omega) (by omega) (fun c2 => ?_) (fun c2 => ?_)
      · refine ab_less (L' := [some (vR 80), none, none]) (fun i v h => by rcases i with _ | _ | _ | i <;> first | exact h | (simp at h)) ?_
        exact hk0 _ _ _ _ _ _ _ _ _ _ _ _ _ _ _ _ _ _ _ _ _ _ _ a1_ b1_ c1_ d1_ e1_ t1_ rp ls na nl SV ao1_ ro1_ ts1_ ro vv h80 h87 h88 h93 h91 h92 h110 h111 ptrI_0 (by omega) (by intro h_; have t_ := coi h_; omega) (by first | exact jmk | exact rgs_w jmk (by omega)) (by first | exact jrl | exact rgs_w jrl (by omega)) (by first | exact jrh | exact rgs_w jrh (by omega)) (by first | exact jns | exact rgs_w jns (by omega)) (by first | exact jnm | exact rgs_w jnm (by omega)) (by exact jr) (by omega) hfr hlen hsl
      · refine ab_aload_n d_MO_read_73 rfl ?_
        refine ab_callV (d' := d - 1) (as := []) (st := []) (r := _) (z_MO_readPart (o := o) (m_thrown := m_thrown) (m_taped := m_taped) (m_length := m_length) (m_out := m_out) (m_wide := m_wide) (m_gathered := m_gathered) (m_sets := m_sets) (m_ranges := m_ranges) (m_nodes := m_nodes) (m_at := m_at) (m_flags := m_flags) (m_fault := m_fault) (m_place := m_place) (m_numbered := m_numbered) (m_depth := m_depth) (m_value := m_value) (m_isNot := m_isNot) (m_least0 := m_least0) (m_most0 := m_most0) (m_slot := m_slot) (m_work := m_work) (m_got := m_got) (m_rowMany := m_rowMany) (m_charAt := m_charAt) (m_charWide := m_charWide) (m_trail := m_trail) (m_isMatch := m_isMatch) (m_matchGroups := m_matchGroups) (m_allFrom := m_allFrom) (m_allBefore := m_allBefore) (m_founds := m_founds) (m_pieces := m_pieces) (m_writtenMany := m_writtenMany) (m_templateWide := m_templateWide) (m_tooMuch := m_tooMuch) (A_tape := A_tape) (LO := LO) (HI := HI) (MK := MK) (RL := RL) (RH := RH) (NS := NS) (NM := NM) (rp := rp) (ls := ls) (SV := SV) (ro := ro) (vv := vv) (a1_ := a1_) (b1_ := b1_) (c1_ := c1_) (d1_ := d1_) (e1_ := e1_) (t1_ := t1_) (ao1_ := ao1_) (ro1_ := ro1_) (ts1_ := ts1_) h80 h84 h87 h88 h93 h81 h82 h91 h92 h110 h111 ptrI_0 (by omega) (by omega) jtp jmk jrl jrh jns jnm (by omega) (by omega) (by omega) (by omega) (by omega) hnj_ (by omega)) (fun oc G2 h => by rcases h with ⟨_, _, _, _, _, _, _, _, _, _, _, _, _, _, _, _, _, _, _, _, _, _, _, _, _, _, _, _, _, _, _, h, _⟩ | ⟨_, _, _, _, _, _, _, _, _, _, _, _, _, _, _, _, _, _, _, _, _, _, _, _, _, _, _, _, _, h, _⟩ <;> exact ⟨_, h⟩) (by omega) m_MO_readPart ml_MO_433 im_MO_readPart se_MO_readPart c_MO h80.2.2 (Nat.le_of_ble_eq_true rfl) d_MO_read_74 rfl ?_
        intro v G3 hq
        rcases hq with ⟨a24, v25, nt26, w27, g28, s29, r210, n211, fl212, nu213, d214, le215, mo216, f217, p218, LO219, HI220, MK221, RL222, RH223, NS224, NM225, fr226, rp227, ls228, SV229, FS230, ro231, vv232, na233, nl234, hv, hfk, hlk, hsk, hN80, hN87, hN88, hN93, hN91, hN92, hN110, hN111, pNtrI_0, hq35, hq36, hq37, hq38, hq39, hq40, hq41, hq42, hq43, hq44⟩ | ⟨a245, v246, nt247, w248, g249, s250, r251, n252, fl253, nu254, d255, le256, mo257, f258, p259, LO260, HI261, MK262, RL263, RH264, NS265, NM266, fr267, rp268, ls269, SV270, FS271, ro272, vv273, hv, hfk, hlk, hsk, hN80, hN87, hN88, hN93, hN91, hN92, hN110, hN111, pNtrI_0, hq74, hq75, hq76, hq77, hq78, hq79, hq80⟩
        · cases hv
          have h84 := hfk.get h84 (by decide)
          have h81 := hfk.get h81 (by decide)
          have h82 := hfk.get h82 (by decide)
          have ptrI_0 := pNtrI_0
          have hfr := hfr.tr hfk (by decide)
          have hlen := hlk.trans hlen
          have hsl := hsk.trans hsl
          have h80 := hN80
          have h87 := hN87
          have h88 := hN88
          have h93 := hN93
          have h91 := hN91
          have h92 := hN92
          have h110 := hN110
          have h111 := hN111
          change ab_W _ _ _ G3 77 [some (vR 80), some (vz wi), none] [] _
          obtain ⟨K, O, Fi, Be, Le, Mo, Z, LZ, SM, SA, QF, QL, AF, AL, SD, OA, OF, ON, h94, h95, h96, h97, h98, h99, h100, h101, h90, h89, h105, h106, h107, h108, h109, h102, h103, h104, jk, jo, jfi, jbe, jle, jmo, jz, jlz, jsm, jsa, jqf, jql, jaf, jal, jsd, joa, jof, jon, jt, cnd, cre, crs, crz, ck5, ck6, ck7, jss, jsv⟩ := ptrI_0
          obtain ⟨a1q, b1q, c1q, d1q, e1q, t1q, hfq_, -⟩ := jt.j.hd (by omega)
          have hfq_ := hfq_
          obtain ⟨ao1q, ro1q, ts1q, hfs_⟩ := fs_hd jt.len (by omega)
          rw [hfq_, hfs_] at jt
          have ptrI_0 : trI o G3 0 n211 s29 (d214 + 1) (-1) 0 0 ((a1q, b1q, c1q, d1q, e1q) :: t1q) rp227 ls228 0 SV229 ((ao1q, ro1q) :: ts1q) ro231 vv232 mnI RL222 RH223 r210 0 0 := ⟨K, O, Fi, Be, Le, Mo, Z, LZ, SM, SA, QF, QL, AF, AL, SD, OA, OF, ON, h94, h95, h96, h97, h98, h99, h100, h101, h90, h89, h105, h106, h107, h108, h109, h102, h103, h104, jk, jo, jfi, jbe, jle, jmo, jz, jlz, jsm, jsa, jqf, jql, jaf, jal, jsd, joa, jof, jon, jt, (by omega), (fun h => absurd h (by decide)), (fun h => absurd h (by decide)), (fun h => absurd h (by decide)), (fun h => absurd h (by decide)), (fun h => absurd h (by decide)), (fun h => absurd h (by decide)), jss, jsv⟩
          refine ab_goto (tgt := 55) d_MO_read_77 (by decide) ?_
          exact ih (m_at := a24) (m_value := v25) (m_isNot := nt26) (m_wide := w27) (m_gathered := g28) (m_sets := s29) (m_ranges := r210) (m_nodes := n211) (m_flags := fl212) (m_numbered := nu213) (m_depth := d214) (m_least0 := le215) (m_most0 := mo216) (m_fault := f217) (m_place := p218) (LO := LO219) (HI := HI220) (MK := MK221) (RL := RL222) (RH := RH223) (NS := NS224) (NM := NM225) (ms := (m_taped + 1 - a24)) (a1_ := a1q) (b1_ := b1q) (c1_ := c1q) (d1_ := d1q) (e1_ := e1q) (t1_ := t1q) (rp := rp227) (ls := ls228) (na := na233) (nl := nl234) (SV := SV229) (ao1_ := ao1q) (ro1_ := ro1q) (ts1_ := ts1q) (ro := ro231) (vv := vv232) h80 h84 h87 h88 h93 h81 h82 h91 h92 h110 h111 ptrI_0 (by omega) (fun _ => by omega) hq36 hq37 hq38 hq39 hq40 (by rw [← hfq_, ← hfs_]; exact rdJ_s jr (by omega) hq43 (by omega) hq42 (by omega) (by omega) hq44) hfr hlen hsl (by omega) hk0
        · cases hv
          have h84 := hfk.get h84 (by decide)
          have h81 := hfk.get h81 (by decide)
          have h82 := hfk.get h82 (by decide)
          have ptrI_0 := pNtrI_0
          have hfr := hfr.tr hfk (by decide)
          have hlen := hlk.trans hlen
          have hsl := hsk.trans hsl
          have h80 := hN80
          have h87 := hN87
          have h88 := hN88
          have h93 := hN93
          have h91 := hN91
          have h92 := hN92
          have h110 := hN110
          have h111 := hN111
          change ab_W _ _ _ G3 77 [some (vR 80), some (vz wi), none] [] _
          obtain ⟨K, O, Fi, Be, Le, Mo, Z, LZ, SM, SA, QF, QL, AF, AL, SD, OA, OF, ON, h94, h95, h96, h97, h98, h99, h100, h101, h90, h89, h105, h106, h107, h108, h109, h102, h103, h104, jk, jo, jfi, jbe, jle, jmo, jz, jlz, jsm, jsa, jqf, jql, jaf, jal, jsd, joa, jof, jon, jt, cnd, cre, crs, crz, ck5, ck6, ck7, jss, jsv⟩ := ptrI_0
          obtain ⟨a1q, b1q, c1q, d1q, e1q, t1q, hfq_, -⟩ := jt.j.hd (by omega)
          have hfq_ := hfq_
          obtain ⟨ao1q, ro1q, ts1q, hfs_⟩ := fs_hd jt.len (by omega)
          rw [hfq_, hfs_] at jt
          have ptrI_0 : trI o G3 0 n252 s250 (d255 + 1) (-1) 0 0 ((a1q, b1q, c1q, d1q, e1q) :: t1q) rp268 ls269 0 SV270 ((ao1q, ro1q) :: ts1q) ro272 vv273 mnI RL263 RH264 r251 0 0 := ⟨K, O, Fi, Be, Le, Mo, Z, LZ, SM, SA, QF, QL, AF, AL, SD, OA, OF, ON, h94, h95, h96, h97, h98, h99, h100, h101, h90, h89, h105, h106, h107, h108, h109, h102, h103, h104, jk, jo, jfi, jbe, jle, jmo, jz, jlz, jsm, jsa, jqf, jql, jaf, jal, jsd, joa, jof, jon, jt, (by omega), (fun h => absurd h (by decide)), (fun h => absurd h (by decide)), (fun h => absurd h (by decide)), (fun h => absurd h (by decide)), (fun h => absurd h (by decide)), (fun h => absurd h (by decide)), jss, jsv⟩
          refine ab_goto (tgt := 55) d_MO_read_77 (by decide) ?_
          exact ih (m_at := a245) (m_value := v246) (m_isNot := nt247) (m_wide := w248) (m_gathered := g249) (m_sets := s250) (m_ranges := r251) (m_nodes := n252) (m_flags := fl253) (m_numbered := nu254) (m_depth := d255) (m_least0 := le256) (m_most0 := mo257) (m_fault := f258) (m_place := p259) (LO := LO260) (HI := HI261) (MK := MK262) (RL := RL263) (RH := RH264) (NS := NS265) (NM := NM266) (ms := 0) (a1_ := a1q) (b1_ := b1q) (c1_ := c1q) (d1_ := d1q) (e1_ := e1q) (t1_ := t1q) (rp := rp268) (ls := ls269) (na := na) (nl := nl) (SV := SV270) (ao1_ := ao1q) (ro1_ := ro1q) (ts1_ := ts1q) (ro := ro272) (vv := vv273) h80 h84 h87 h88 h93 h81 h82 h91 h92 h110 h111 ptrI_0 (by omega) (fun h => absurd h (by omega)) hq75 hq76 hq77 hq78 hq79 (rdJ_f jr (by omega) (by omega) hq80 (by omega)) hfr hlen hsl (by omega) hk0
set_option maxRecDepth 100000 in
set_option maxHeartbeats 4000000 in
theorem z_MO_read {X : ab_X} {d : Nat} {o : Nat → Nat} {G : ab_G} {m_thrown : Int} {m_taped : Int} {m_length : Int} {m_out : Int} {m_wide : Int} {m_gathered : Int} {m_sets : Int} {m_ranges : Int} {m_nodes : Int} {m_at : Int} {m_flags : Int} {m_fault : Int} {m_place : Int} {m_numbered : Int} {m_depth : Int} {m_value : Int} {m_isNot : Int} {m_least0 : Int} {m_most0 : Int} {m_slot : Int} {m_work : Int} {m_got : Int} {m_rowMany : Int} {m_charAt : Int} {m_charWide : Int} {m_trail : Int} {m_isMatch : Int} {m_matchGroups : Int} {m_allFrom : Int} {m_allBefore : Int} {m_founds : Int} {m_pieces : Int} {m_writtenMany : Int} {m_templateWide : Int} {m_tooMuch : Int} {A_tape : Int → Int} {LO : Int → Int} {HI : Int → Int} {MK : Int → Int} {RL : Int → Int} {RH : Int → Int} {NS : Int → Int} {NM : Int → Int} {fr : List Fr} {rp : Int} {ls : Int} {dz : Int} {SV : Int → Int → Prop} {FS : List Fs} {ro : Sn} {vv : Sn} {dv : Sn} {nu9 : Int} {fo9 : Int} {wi : Int} {nd0 : Int} {ns0 : Int} {lv0 : Int} {dn0 : Int} {dh0 : Int} {re0 : Int} (h80 : cc o G 80 280 (ab_ob 12 (mof m_thrown m_taped m_length m_out m_wide m_gathered m_sets m_ranges m_nodes m_at m_flags m_fault m_place m_numbered m_depth m_value m_isNot m_least0 m_most0 m_slot m_work m_got m_rowMany m_charAt m_charWide m_trail m_isMatch m_matchGroups m_allFrom m_allBefore m_founds m_pieces m_writtenMany m_templateWide m_tooMuch))) (h84 : cc o G 84 284 (za 2000 A_tape)) (h87 : cc o G 87 287 (za 9000 LO)) (h88 : cc o G 88 288 (za 9000 HI)) (h93 : cc o G 93 293 (zb 1200 MK)) (h81 : cc o G 81 281 (za 13 tbA)) (h82 : cc o G 82 282 (za 66 tbT)) (h91 : cc o G 91 291 (za 24000 RL)) (h92 : cc o G 92 292 (za 24000 RH)) (h110 : cc o G 110 310 (za 120 NS)) (h111 : cc o G 111 311 (za 10 NM)) (ptrI_0 : trI o G 0 nd0 ns0 lv0 dn0 dh0 re0 fr rp ls dz SV FS ro vv dv RL RH m_ranges nu9 fo9) (n18 : ab_n0 = 18) (cta : 0 ≤ m_taped ∧ m_taped ≤ 2000) (jtp : rgs A_tape 2000 0 255) (jmk : rgs MK 1200 0 1) (jrl : rgs RL 24000 0 1114111) (jrh : rgs RH 24000 0 1114111) (jns : rgs NS 120 0 255) (jnm : rgs NM 10 0 12) (cwi : 0 ≤ wi ∧ wi ≤ 15) (cvl : -2147483648 ≤ m_value ∧ m_value ≤ 2147483647) (hd : 10 ≤ d) : ab_F X d y_MO_read (.code y_MO_read b_MO_read 3 (some (.int))) [vR 80, vz wi] G (fun oc G2 => (∃ v : Int, ∃ a2 : Int, ∃ v2 : Int, ∃ nt2 : Int, ∃ w2 : Int, ∃ g2 : Int, ∃ s2 : Int, ∃ r2 : Int, ∃ n2 : Int, ∃ fl2 : Int, ∃ nu2 : Int, ∃ d2 : Int, ∃ le2 : Int, ∃ mo2 : Int, ∃ f2 : Int, ∃ p2 : Int, ∃ LO2 : Int → Int, ∃ HI2 : Int → Int, ∃ MK2 : Int → Int, ∃ RL2 : Int → Int, ∃ RH2 : Int → Int, ∃ NS2 : Int → Int, ∃ NM2 : Int → Int, ∃ fr2 : List Fr, ∃ z9 : Int, ∃ SV2 : Int → Int → Prop, ∃ FS2 : List Fs, ∃ v9 : Sn, oc = .returned (some (vz v)) ∧ fx o o [280, 287, 288, 293, 291, 292, 310, 311, 294, 295, 296, 297, 298, 299, 300, 301, 290, 289, 305, 306, 307, 308, 309, 302, 303, 304] G G2 ∧ G2.length = G.length ∧ ab_slots G2 = ab_slots G ∧ cc o G2 80 280 (ab_ob 12 (mof m_thrown m_taped m_length m_out w2 g2 s2 r2 n2 a2 fl2 f2 p2 nu2 d2 v2 nt2 le2 mo2 m_slot m_work m_got m_rowMany m_charAt m_charWide m_trail m_isMatch m_matchGroups m_allFrom m_allBefore m_founds m_pieces m_writtenMany m_templateWide m_tooMuch)) ∧ cc o G2 87 287 (za 9000 LO2) ∧ cc o G2 88 288 (za 9000 HI2) ∧ cc o G2 93 293 (zb 1200 MK2) ∧ cc o G2 91 291 (za 24000 RL2) ∧ cc o G2 92 292 (za 24000 RH2) ∧ cc o G2 110 310 (za 120 NS2) ∧ cc o G2 111 311 (za 10 NM2) ∧ trI o G2 0 n2 s2 d2 v (31 - d2) 3 fr2 2 0 z9 SV2 FS2 mnI mnI v9 RL2 RH2 r2 0 0 ∧ (f2 = 0 ∧ d2 = 0 ∧ 0 ≤ v ∧ v < n2 ∧ n2 ≤ 4200 ∧ 0 ≤ s2 ∧ s2 ≤ 2100 ∧ 0 ≤ nu2 ∧ nu2 ≤ 9 ∧ -2147483648 ≤ v2 ∧ v2 ≤ 2147483647) ∧ (rgs MK2 1200 0 1) ∧ (rgs RL2 24000 0 1114111) ∧ (rgs RH2 24000 0 1114111) ∧ (rgs NS2 120 0 255) ∧ (rgs NM2 10 0 12) ∧ (rdN A_tape m_taped wi nu2 z9 NS2 NM2) ∧ (rdM A_tape m_taped wi v9) ∧ (p2 = -1)) ∨ (∃ v : Int, ∃ a2 : Int, ∃ v2 : Int, ∃ nt2 : Int, ∃ w2 : Int, ∃ g2 : Int, ∃ s2 : Int, ∃ r2 : Int, ∃ n2 : Int, ∃ fl2 : Int, ∃ nu2 : Int, ∃ d2 : Int, ∃ le2 : Int, ∃ mo2 : Int, ∃ f2 : Int, ∃ p2 : Int, ∃ lv2 : Int, ∃ dn2 : Int, ∃ dh2 : Int, ∃ LO2 : Int → Int, ∃ HI2 : Int → Int, ∃ MK2 : Int → Int, ∃ RL2 : Int → Int, ∃ RH2 : Int → Int, ∃ NS2 : Int → Int, ∃ NM2 : Int → Int, ∃ fr2 : List Fr, ∃ rp2 : Int, ∃ ls2 : Int, ∃ dz2 : Int, ∃ SV2 : Int → Int → Prop, ∃ FS2 : List Fs, ∃ ro2 : Sn, ∃ vv2 : Sn, ∃ dv2 : Sn, oc = .returned (some (vz v)) ∧ fx o o [280, 287, 288, 293, 291, 292, 310, 311, 294, 295, 296, 297, 298, 299, 300, 301, 290, 289, 305, 306, 307, 308, 309, 302, 303, 304] G G2 ∧ G2.length = G.length ∧ ab_slots G2 = ab_slots G ∧ cc o G2 80 280 (ab_ob 12 (mof m_thrown m_taped m_length m_out w2 g2 s2 r2 n2 a2 fl2 f2 p2 nu2 d2 v2 nt2 le2 mo2 m_slot m_work m_got m_rowMany m_charAt m_charWide m_trail m_isMatch m_matchGroups m_allFrom m_allBefore m_founds m_pieces m_writtenMany m_templateWide m_tooMuch)) ∧ cc o G2 87 287 (za 9000 LO2) ∧ cc o G2 88 288 (za 9000 HI2) ∧ cc o G2 93 293 (zb 1200 MK2) ∧ cc o G2 91 291 (za 24000 RL2) ∧ cc o G2 92 292 (za 24000 RH2) ∧ cc o G2 110 310 (za 120 NS2) ∧ cc o G2 111 311 (za 10 NM2) ∧ trI o G2 0 n2 s2 lv2 dn2 dh2 0 fr2 rp2 ls2 dz2 SV2 FS2 ro2 vv2 dv2 RL2 RH2 r2 0 0 ∧ (1 ≤ f2 ∧ f2 ≤ 14 ∧ 0 ≤ n2 ∧ n2 ≤ 4200 ∧ 0 ≤ s2 ∧ s2 ≤ 2100 ∧ 0 ≤ nu2 ∧ nu2 ≤ 9 ∧ -2147483648 ≤ v2 ∧ v2 ≤ 2147483647) ∧ (rgs MK2 1200 0 1) ∧ (rgs RL2 24000 0 1114111) ∧ (rgs RH2 24000 0 1114111) ∧ (rgs NS2 120 0 255) ∧ (rgs NM2 10 0 12) ∧ (rdF A_tape m_taped wi f2 p2))) := by
  refine ab_F_of (by decide +kernel) (Nat.le_of_ble_eq_true rfl) ?_
  obtain ⟨Q, hQ⟩ : ∃ z : Outcome → ab_G → Prop, z = (fun oc G2 => (∃ v : Int, ∃ a2 : Int, ∃ v2 : Int, ∃ nt2 : Int, ∃ w2 : Int, ∃ g2 : Int, ∃ s2 : Int, ∃ r2 : Int, ∃ n2 : Int, ∃ fl2 : Int, ∃ nu2 : Int, ∃ d2 : Int, ∃ le2 : Int, ∃ mo2 : Int, ∃ f2 : Int, ∃ p2 : Int, ∃ LO2 : Int → Int, ∃ HI2 : Int → Int, ∃ MK2 : Int → Int, ∃ RL2 : Int → Int, ∃ RH2 : Int → Int, ∃ NS2 : Int → Int, ∃ NM2 : Int → Int, ∃ fr2 : List Fr, ∃ z9 : Int, ∃ SV2 : Int → Int → Prop, ∃ FS2 : List Fs, ∃ v9 : Sn, oc = .returned (some (vz v)) ∧ fx o o [280, 287, 288, 293, 291, 292, 310, 311, 294, 295, 296, 297, 298, 299, 300, 301, 290, 289, 305, 306, 307, 308, 309, 302, 303, 304] G G2 ∧ G2.length = G.length ∧ ab_slots G2 = ab_slots G ∧ cc o G2 80 280 (ab_ob 12 (mof m_thrown m_taped m_length m_out w2 g2 s2 r2 n2 a2 fl2 f2 p2 nu2 d2 v2 nt2 le2 mo2 m_slot m_work m_got m_rowMany m_charAt m_charWide m_trail m_isMatch m_matchGroups m_allFrom m_allBefore m_founds m_pieces m_writtenMany m_templateWide m_tooMuch)) ∧ cc o G2 87 287 (za 9000 LO2) ∧ cc o G2 88 288 (za 9000 HI2) ∧ cc o G2 93 293 (zb 1200 MK2) ∧ cc o G2 91 291 (za 24000 RL2) ∧ cc o G2 92 292 (za 24000 RH2) ∧ cc o G2 110 310 (za 120 NS2) ∧ cc o G2 111 311 (za 10 NM2) ∧ trI o G2 0 n2 s2 d2 v (31 - d2) 3 fr2 2 0 z9 SV2 FS2 mnI mnI v9 RL2 RH2 r2 0 0 ∧ (f2 = 0 ∧ d2 = 0 ∧ 0 ≤ v ∧ v < n2 ∧ n2 ≤ 4200 ∧ 0 ≤ s2 ∧ s2 ≤ 2100 ∧ 0 ≤ nu2 ∧ nu2 ≤ 9 ∧ -2147483648 ≤ v2 ∧ v2 ≤ 2147483647) ∧ (rgs MK2 1200 0 1) ∧ (rgs RL2 24000 0 1114111) ∧ (rgs RH2 24000 0 1114111) ∧ (rgs NS2 120 0 255) ∧ (rgs NM2 10 0 12) ∧ (rdN A_tape m_taped wi nu2 z9 NS2 NM2) ∧ (rdM A_tape m_taped wi v9) ∧ (p2 = -1)) ∨ (∃ v : Int, ∃ a2 : Int, ∃ v2 : Int, ∃ nt2 : Int, ∃ w2 : Int, ∃ g2 : Int, ∃ s2 : Int, ∃ r2 : Int, ∃ n2 : Int, ∃ fl2 : Int, ∃ nu2 : Int, ∃ d2 : Int, ∃ le2 : Int, ∃ mo2 : Int, ∃ f2 : Int, ∃ p2 : Int, ∃ lv2 : Int, ∃ dn2 : Int, ∃ dh2 : Int, ∃ LO2 : Int → Int, ∃ HI2 : Int → Int, ∃ MK2 : Int → Int, ∃ RL2 : Int → Int, ∃ RH2 : Int → Int, ∃ NS2 : Int → Int, ∃ NM2 : Int → Int, ∃ fr2 : List Fr, ∃ rp2 : Int, ∃ ls2 : Int, ∃ dz2 : Int, ∃ SV2 : Int → Int → Prop, ∃ FS2 : List Fs, ∃ ro2 : Sn, ∃ vv2 : Sn, ∃ dv2 : Sn, oc = .returned (some (vz v)) ∧ fx o o [280, 287, 288, 293, 291, 292, 310, 311, 294, 295, 296, 297, 298, 299, 300, 301, 290, 289, 305, 306, 307, 308, 309, 302, 303, 304] G G2 ∧ G2.length = G.length ∧ ab_slots G2 = ab_slots G ∧ cc o G2 80 280 (ab_ob 12 (mof m_thrown m_taped m_length m_out w2 g2 s2 r2 n2 a2 fl2 f2 p2 nu2 d2 v2 nt2 le2 mo2 m_slot m_work m_got m_rowMany m_charAt m_charWide m_trail m_isMatch m_matchGroups m_allFrom m_allBefore m_founds m_pieces m_writtenMany m_templateWide m_tooMuch)) ∧ cc o G2 87 287 (za 9000 LO2) ∧ cc o G2 88 288 (za 9000 HI2) ∧ cc o G2 93 293 (zb 1200 MK2) ∧ cc o G2 91 291 (za 24000 RL2) ∧ cc o G2 92 292 (za 24000 RH2) ∧ cc o G2 110 310 (za 120 NS2) ∧ cc o G2 111 311 (za 10 NM2) ∧ trI o G2 0 n2 s2 lv2 dn2 dh2 0 fr2 rp2 ls2 dz2 SV2 FS2 ro2 vv2 dv2 RL2 RH2 r2 0 0 ∧ (1 ≤ f2 ∧ f2 ≤ 14 ∧ 0 ≤ n2 ∧ n2 ≤ 4200 ∧ 0 ≤ s2 ∧ s2 ≤ 2100 ∧ 0 ≤ nu2 ∧ nu2 ≤ 9 ∧ -2147483648 ≤ v2 ∧ v2 ≤ 2147483647) ∧ (rgs MK2 1200 0 1) ∧ (rgs RL2 24000 0 1114111) ∧ (rgs RH2 24000 0 1114111) ∧ (rgs NS2 120 0 255) ∧ (rgs NM2 10 0 12) ∧ (rdF A_tape m_taped wi f2 p2))) := ⟨_, rfl⟩
  rw [← hQ]
  change ab_W X (ab_pl y_MO_read b_MO_read 3 (some (.int))) d G 0 [some (vR 80), some (vz wi), none] [] Q
  have hfr : fx o o [280, 287, 288, 293, 291, 292, 310, 311, 294, 295, 296, 297, 298, 299, 300, 301, 290, 289, 305, 306, 307, 308, 309, 302, 303, 304] G G := fx.rf
  have hlen : G.length = G.length := rfl
  have hsl : ab_slots G = ab_slots G := rfl
  obtain ⟨K_o, O_o, Fi_o, Be_o, Le_o, Mo_o, Z_o, LZ_o, SM_o, SA_o, QF_o, QL_o, AF_o, AL_o, SD_o, OA_o, OF_o, ON_o, h94, h95, h96, h97, h98, h99, h100, h101, h90, h89, h105, h106, h107, h108, h109, h102, h103, h104, jk_o, jo_o, jfi_o, jbe_o, jle_o, jmo_o, jz_o, jlz_o, jsm_o, jsa_o, jqf_o, jql_o, jaf_o, jal_o, jsd_o, joa_o, jof_o, jon_o, jt_o, cnd_o, cre_o, crs_o, crz_o, ck5_o, ck6_o, ck7_o, jss_o, jsv_o⟩ := ptrI_0
  refine ab_aload_n d_MO_read_0 rfl ?_
  refine zz_iconst d_MO_read_1 ?_
  refine ab_putf (fs := mof m_thrown m_taped m_length m_out m_wide m_gathered m_sets m_ranges m_nodes m_at m_flags m_fault m_place m_numbered m_depth m_value m_isNot m_least0 m_most0 m_slot m_work m_got m_rowMany m_charAt m_charWide m_trail m_isMatch m_matchGroups m_allFrom m_allBefore m_founds m_pieces m_writtenMany m_templateWide m_tooMuch) f_MO_279 (Or.inl rfl) d_MO_read_2 h80.2.2 (Nat.le_of_ble_eq_true rfl) (fun _ => ⟨rfl, rfl⟩) (h80.2.1 (by decide)) ?_
  obtain ⟨G1, eG1⟩ : ∃ z : ab_G, z = List.set G 80 (ab_ob 12 (mof m_thrown m_taped m_length m_out m_wide m_gathered m_sets m_ranges m_nodes 0 m_flags m_fault m_place m_numbered m_depth m_value m_isNot m_least0 m_most0 m_slot m_work m_got m_rowMany m_charAt m_charWide m_trail m_isMatch m_matchGroups m_allFrom m_allBefore m_founds m_pieces m_writtenMany m_templateWide m_tooMuch)) := ⟨_, rfl⟩
  have h84 := h84.keep h80 eG1 (by decide)
  have h87 := h87.keep h80 eG1 (by decide)
  have h88 := h88.keep h80 eG1 (by decide)
  have h93 := h93.keep h80 eG1 (by decide)
  have h81 := h81.keep h80 eG1 (by decide)
  have h82 := h82.keep h80 eG1 (by decide)
  have h91 := h91.keep h80 eG1 (by decide)
  have h92 := h92.keep h80 eG1 (by decide)
  have h110 := h110.keep h80 eG1 (by decide)
  have h111 := h111.keep h80 eG1 (by decide)
  have h94 := h94.keep h80 eG1 (by decide)
  have h95 := h95.keep h80 eG1 (by decide)
  have h96 := h96.keep h80 eG1 (by decide)
  have h97 := h97.keep h80 eG1 (by decide)
  have h98 := h98.keep h80 eG1 (by decide)
  have h99 := h99.keep h80 eG1 (by decide)
  have h100 := h100.keep h80 eG1 (by decide)
  have h101 := h101.keep h80 eG1 (by decide)
  have h90 := h90.keep h80 eG1 (by decide)
  have h89 := h89.keep h80 eG1 (by decide)
  have h105 := h105.keep h80 eG1 (by decide)
  have h106 := h106.keep h80 eG1 (by decide)
  have h107 := h107.keep h80 eG1 (by decide)
  have h108 := h108.keep h80 eG1 (by decide)
  have h109 := h109.keep h80 eG1 (by decide)
  have h102 := h102.keep h80 eG1 (by decide)
  have h103 := h103.keep h80 eG1 (by decide)
  have h104 := h104.keep h80 eG1 (by decide)
  have hlen := (z_len eG1).trans hlen
  have hsl := (z_sl h80 eG1 rfl).trans hsl
  have hfr := hfr.wr h80 eG1 (by decide)
  have h80 := h80.kept eG1
  change ab_W _ _ _ (List.set G 80 (ab_ob 12 (mof m_thrown m_taped m_length m_out m_wide m_gathered m_sets m_ranges m_nodes 0 m_flags m_fault m_place m_numbered m_depth m_value m_isNot m_least0 m_most0 m_slot m_work m_got m_rowMany m_charAt m_charWide m_trail m_isMatch m_matchGroups m_allFrom m_allBefore m_founds m_pieces m_writtenMany m_templateWide m_tooMuch))) 5 [some (vR 80), some (vz wi), none] [] _
  rw [← eG1]
  refine ab_aload_n d_MO_read_5 rfl ?_
  refine ab_iload_n d_MO_read_6 rfl ?_
  refine ab_putf (fs := mof m_thrown m_taped m_length m_out m_wide m_gathered m_sets m_ranges m_nodes 0 m_flags m_fault m_place m_numbered m_depth m_value m_isNot m_least0 m_most0 m_slot m_work m_got m_rowMany m_charAt m_charWide m_trail m_isMatch m_matchGroups m_allFrom m_allBefore m_founds m_pieces m_writtenMany m_templateWide m_tooMuch) f_MO_276 (Or.inl rfl) d_MO_read_7 h80.2.2 (Nat.le_of_ble_eq_true rfl) (fun _ => ⟨rfl, rfl⟩) (h80.2.1 (by decide)) ?_
  obtain ⟨G2, eG2⟩ : ∃ z : ab_G, z = List.set G1 80 (ab_ob 12 (mof m_thrown m_taped m_length m_out m_wide m_gathered m_sets m_ranges m_nodes 0 wi m_fault m_place m_numbered m_depth m_value m_isNot m_least0 m_most0 m_slot m_work m_got m_rowMany m_charAt m_charWide m_trail m_isMatch m_matchGroups m_allFrom m_allBefore m_founds m_pieces m_writtenMany m_templateWide m_tooMuch)) := ⟨_, rfl⟩
  have h84 := h84.keep h80 eG2 (by decide)
  have h87 := h87.keep h80 eG2 (by decide)
  have h88 := h88.keep h80 eG2 (by decide)
  have h93 := h93.keep h80 eG2 (by decide)
  have h81 := h81.keep h80 eG2 (by decide)
  have h82 := h82.keep h80 eG2 (by decide)
  have h91 := h91.keep h80 eG2 (by decide)
  have h92 := h92.keep h80 eG2 (by decide)
  have h110 := h110.keep h80 eG2 (by decide)
  have h111 := h111.keep h80 eG2 (by decide)
  have h94 := h94.keep h80 eG2 (by decide)
  have h95 := h95.keep h80 eG2 (by decide)
  have h96 := h96.keep h80 eG2 (by decide)
  have h97 := h97.keep h80 eG2 (by decide)
  have h98 := h98.keep h80 eG2 (by decide)
  have h99 := h99.keep h80 eG2 (by decide)
  have h100 := h100.keep h80 eG2 (by decide)
  have h101 := h101.keep h80 eG2 (by decide)
  have h90 := h90.keep h80 eG2 (by decide)
  have h89 := h89.keep h80 eG2 (by decide)
  have h105 := h105.keep h80 eG2 (by decide)
  have h106 := h106.keep h80 eG2 (by decide)
  have h107 := h107.keep h80 eG2 (by decide)
  have h108 := h108.keep h80 eG2 (by decide)
  have h109 := h109.keep h80 eG2 (by decide)
  have h102 := h102.keep h80 eG2 (by decide)
  have h103 := h103.keep h80 eG2 (by decide)
  have h104 := h104.keep h80 eG2 (by decide)
  have hlen := (z_len eG2).trans hlen
  have hsl := (z_sl h80 eG2 rfl).trans hsl
  have hfr := hfr.wr h80 eG2 (by decide)
  have h80 := h80.kept eG2
  change ab_W _ _ _ (List.set G1 80 (ab_ob 12 (mof m_thrown m_taped m_length m_out m_wide m_gathered m_sets m_ranges m_nodes 0 wi m_fault m_place m_numbered m_depth m_value m_isNot m_least0 m_most0 m_slot m_work m_got m_rowMany m_charAt m_charWide m_trail m_isMatch m_matchGroups m_allFrom m_allBefore m_founds m_pieces m_writtenMany m_templateWide m_tooMuch))) 10 [some (vR 80), some (vz wi), none] [] _
  rw [← eG2]
  refine ab_aload_n d_MO_read_10 rfl ?_
  refine zz_iconst d_MO_read_11 ?_
  refine ab_putf (fs := mof m_thrown m_taped m_length m_out m_wide m_gathered m_sets m_ranges m_nodes 0 wi m_fault m_place m_numbered m_depth m_value m_isNot m_least0 m_most0 m_slot m_work m_got m_rowMany m_charAt m_charWide m_trail m_isMatch m_matchGroups m_allFrom m_allBefore m_founds m_pieces m_writtenMany m_templateWide m_tooMuch) f_MO_273 (Or.inl rfl) d_MO_read_12 h80.2.2 (Nat.le_of_ble_eq_true rfl) (fun _ => ⟨rfl, rfl⟩) (h80.2.1 (by decide)) ?_
  obtain ⟨G3, eG3⟩ : ∃ z : ab_G, z = List.set G2 80 (ab_ob 12 (mof m_thrown m_taped m_length m_out m_wide m_gathered m_sets m_ranges m_nodes 0 wi 0 m_place m_numbered m_depth m_value m_isNot m_least0 m_most0 m_slot m_work m_got m_rowMany m_charAt m_charWide m_trail m_isMatch m_matchGroups m_allFrom m_allBefore m_founds m_pieces m_writtenMany m_templateWide m_tooMuch)) := ⟨_, rfl⟩
  have h84 := h84.keep h80 eG3 (by decide)
  have h87 := h87.keep h80 eG3 (by decide)
  have h88 := h88.keep h80 eG3 (by decide)
  have h93 := h93.keep h80 eG3 (by decide)
  have h81 := h81.keep h80 eG3 (by decide)
  have h82 := h82.keep h80 eG3 (by decide)
  have h91 := h91.keep h80 eG3 (by decide)
  have h92 := h92.keep h80 eG3 (by decide)
  have h110 := h110.keep h80 eG3 (by decide)
  have h111 := h111.keep h80 eG3 (by decide)
  have h94 := h94.keep h80 eG3 (by decide)
  have h95 := h95.keep h80 eG3 (by decide)
  have h96 := h96.keep h80 eG3 (by decide)
  have h97 := h97.keep h80 eG3 (by decide)
  have h98 := h98.keep h80 eG3 (by decide)
  have h99 := h99.keep h80 eG3 (by decide)
  have h100 := h100.keep h80 eG3 (by decide)
  have h101 := h101.keep h80 eG3 (by decide)
  have h90 := h90.keep h80 eG3 (by decide)
  have h89 := h89.keep h80 eG3 (by decide)
  have h105 := h105.keep h80 eG3 (by decide)
  have h106 := h106.keep h80 eG3 (by decide)
  have h107 := h107.keep h80 eG3 (by decide)
  have h108 := h108.keep h80 eG3 (by decide)
  have h109 := h109.keep h80 eG3 (by decide)
  have h102 := h102.keep h80 eG3 (by decide)
  have h103 := h103.keep h80 eG3 (by decide)
  have h104 := h104.keep h80 eG3 (by decide)
  have hlen := (z_len eG3).trans hlen
  have hsl := (z_sl h80 eG3 rfl).trans hsl
  have hfr := hfr.wr h80 eG3 (by decide)
  have h80 := h80.kept eG3
  change ab_W _ _ _ (List.set G2 80 (ab_ob 12 (mof m_thrown m_taped m_length m_out m_wide m_gathered m_sets m_ranges m_nodes 0 wi 0 m_place m_numbered m_depth m_value m_isNot m_least0 m_most0 m_slot m_work m_got m_rowMany m_charAt m_charWide m_trail m_isMatch m_matchGroups m_allFrom m_allBefore m_founds m_pieces m_writtenMany m_templateWide m_tooMuch))) 15 [some (vR 80), some (vz wi), none] [] _
  rw [← eG3]
  refine ab_aload_n d_MO_read_15 rfl ?_
  refine zz_iconst d_MO_read_16 ?_
  refine ab_putf (fs := mof m_thrown m_taped m_length m_out m_wide m_gathered m_sets m_ranges m_nodes 0 wi 0 m_place m_numbered m_depth m_value m_isNot m_least0 m_most0 m_slot m_work m_got m_rowMany m_charAt m_charWide m_trail m_isMatch m_matchGroups m_allFrom m_allBefore m_founds m_pieces m_writtenMany m_templateWide m_tooMuch) f_MO_75 (Or.inl rfl) d_MO_read_17 h80.2.2 (Nat.le_of_ble_eq_true rfl) (fun _ => ⟨rfl, rfl⟩) (h80.2.1 (by decide)) ?_
  obtain ⟨G4, eG4⟩ : ∃ z : ab_G, z = List.set G3 80 (ab_ob 12 (mof m_thrown m_taped m_length m_out m_wide m_gathered m_sets m_ranges m_nodes 0 wi 0 (-1) m_numbered m_depth m_value m_isNot m_least0 m_most0 m_slot m_work m_got m_rowMany m_charAt m_charWide m_trail m_isMatch m_matchGroups m_allFrom m_allBefore m_founds m_pieces m_writtenMany m_templateWide m_tooMuch)) := ⟨_, rfl⟩
  have h84 := h84.keep h80 eG4 (by decide)
  have h87 := h87.keep h80 eG4 (by decide)
  have h88 := h88.keep h80 eG4 (by decide)
  have h93 := h93.keep h80 eG4 (by decide)
  have h81 := h81.keep h80 eG4 (by decide)
  have h82 := h82.keep h80 eG4 (by decide)
  have h91 := h91.keep h80 eG4 (by decide)
  have h92 := h92.keep h80 eG4 (by decide)
  have h110 := h110.keep h80 eG4 (by decide)
  have h111 := h111.keep h80 eG4 (by decide)
  have h94 := h94.keep h80 eG4 (by decide)
  have h95 := h95.keep h80 eG4 (by decide)
  have h96 := h96.keep h80 eG4 (by decide)
  have h97 := h97.keep h80 eG4 (by decide)
  have h98 := h98.keep h80 eG4 (by decide)
  have h99 := h99.keep h80 eG4 (by decide)
  have h100 := h100.keep h80 eG4 (by decide)
  have h101 := h101.keep h80 eG4 (by decide)
  have h90 := h90.keep h80 eG4 (by decide)
  have h89 := h89.keep h80 eG4 (by decide)
  have h105 := h105.keep h80 eG4 (by decide)
  have h106 := h106.keep h80 eG4 (by decide)
  have h107 := h107.keep h80 eG4 (by decide)
  have h108 := h108.keep h80 eG4 (by decide)
  have h109 := h109.keep h80 eG4 (by decide)
  have h102 := h102.keep h80 eG4 (by decide)
  have h103 := h103.keep h80 eG4 (by decide)
  have h104 := h104.keep h80 eG4 (by decide)
  have hlen := (z_len eG4).trans hlen
  have hsl := (z_sl h80 eG4 rfl).trans hsl
  have hfr := hfr.wr h80 eG4 (by decide)
  have h80 := h80.kept eG4
  change ab_W _ _ _ (List.set G3 80 (ab_ob 12 (mof m_thrown m_taped m_length m_out m_wide m_gathered m_sets m_ranges m_nodes 0 wi 0 (-1) m_numbered m_depth m_value m_isNot m_least0 m_most0 m_slot m_work m_got m_rowMany m_charAt m_charWide m_trail m_isMatch m_matchGroups m_allFrom m_allBefore m_founds m_pieces m_writtenMany m_templateWide m_tooMuch))) 20 [some (vR 80), some (vz wi), none] [] _
  rw [← eG4]
  refine ab_aload_n d_MO_read_20 rfl ?_
  refine zz_iconst d_MO_read_21 ?_
  refine ab_putf (fs := mof m_thrown m_taped m_length m_out m_wide m_gathered m_sets m_ranges m_nodes 0 wi 0 (-1) m_numbered m_depth m_value m_isNot m_least0 m_most0 m_slot m_work m_got m_rowMany m_charAt m_charWide m_trail m_isMatch m_matchGroups m_allFrom m_allBefore m_founds m_pieces m_writtenMany m_templateWide m_tooMuch) f_MO_395 (Or.inl rfl) d_MO_read_22 h80.2.2 (Nat.le_of_ble_eq_true rfl) (fun _ => ⟨rfl, rfl⟩) (h80.2.1 (by decide)) ?_
  obtain ⟨G5, eG5⟩ : ∃ z : ab_G, z = List.set G4 80 (ab_ob 12 (mof m_thrown m_taped m_length m_out m_wide m_gathered m_sets m_ranges m_nodes 0 wi 0 (-1) 0 m_depth m_value m_isNot m_least0 m_most0 m_slot m_work m_got m_rowMany m_charAt m_charWide m_trail m_isMatch m_matchGroups m_allFrom m_allBefore m_founds m_pieces m_writtenMany m_templateWide m_tooMuch)) := ⟨_, rfl⟩
  have h84 := h84.keep h80 eG5 (by decide)
  have h87 := h87.keep h80 eG5 (by decide)
  have h88 := h88.keep h80 eG5 (by decide)
  have h93 := h93.keep h80 eG5 (by decide)
  have h81 := h81.keep h80 eG5 (by decide)
  have h82 := h82.keep h80 eG5 (by decide)
  have h91 := h91.keep h80 eG5 (by decide)
  have h92 := h92.keep h80 eG5 (by decide)
  have h110 := h110.keep h80 eG5 (by decide)
  have h111 := h111.keep h80 eG5 (by decide)
  have h94 := h94.keep h80 eG5 (by decide)
  have h95 := h95.keep h80 eG5 (by decide)
  have h96 := h96.keep h80 eG5 (by decide)
  have h97 := h97.keep h80 eG5 (by decide)
  have h98 := h98.keep h80 eG5 (by decide)
  have h99 := h99.keep h80 eG5 (by decide)
  have h100 := h100.keep h80 eG5 (by decide)
  have h101 := h101.keep h80 eG5 (by decide)
  have h90 := h90.keep h80 eG5 (by decide)
  have h89 := h89.keep h80 eG5 (by decide)
  have h105 := h105.keep h80 eG5 (by decide)
  have h106 := h106.keep h80 eG5 (by decide)
  have h107 := h107.keep h80 eG5 (by decide)
  have h108 := h108.keep h80 eG5 (by decide)
  have h109 := h109.keep h80 eG5 (by decide)
  have h102 := h102.keep h80 eG5 (by decide)
  have h103 := h103.keep h80 eG5 (by decide)
  have h104 := h104.keep h80 eG5 (by decide)
  have hlen := (z_len eG5).trans hlen
  have hsl := (z_sl h80 eG5 rfl).trans hsl
  have hfr := hfr.wr h80 eG5 (by decide)
  have h80 := h80.kept eG5
  change ab_W _ _ _ (List.set G4 80 (ab_ob 12 (mof m_thrown m_taped m_length m_out m_wide m_gathered m_sets m_ranges m_nodes 0 wi 0 (-1) 0 m_depth m_value m_isNot m_least0 m_most0 m_slot m_work m_got m_rowMany m_charAt m_charWide m_trail m_isMatch m_matchGroups m_allFrom m_allBefore m_founds m_pieces m_writtenMany m_templateWide m_tooMuch))) 25 [some (vR 80), some (vz wi), none] [] _
  rw [← eG5]
  refine ab_aload_n d_MO_read_25 rfl ?_
  refine zz_iconst d_MO_read_26 ?_
  refine ab_putf (fs := mof m_thrown m_taped m_length m_out m_wide m_gathered m_sets m_ranges m_nodes 0 wi 0 (-1) 0 m_depth m_value m_isNot m_least0 m_most0 m_slot m_work m_got m_rowMany m_charAt m_charWide m_trail m_isMatch m_matchGroups m_allFrom m_allBefore m_founds m_pieces m_writtenMany m_templateWide m_tooMuch) f_MO_282 (Or.inl rfl) d_MO_read_27 h80.2.2 (Nat.le_of_ble_eq_true rfl) (fun _ => ⟨rfl, rfl⟩) (h80.2.1 (by decide)) ?_
  obtain ⟨G6, eG6⟩ : ∃ z : ab_G, z = List.set G5 80 (ab_ob 12 (mof m_thrown m_taped m_length m_out m_wide m_gathered m_sets m_ranges m_nodes 0 wi 0 (-1) 0 0 m_value m_isNot m_least0 m_most0 m_slot m_work m_got m_rowMany m_charAt m_charWide m_trail m_isMatch m_matchGroups m_allFrom m_allBefore m_founds m_pieces m_writtenMany m_templateWide m_tooMuch)) := ⟨_, rfl⟩
  have h84 := h84.keep h80 eG6 (by decide)
  have h87 := h87.keep h80 eG6 (by decide)
  have h88 := h88.keep h80 eG6 (by decide)
  have h93 := h93.keep h80 eG6 (by decide)
  have h81 := h81.keep h80 eG6 (by decide)
  have h82 := h82.keep h80 eG6 (by decide)
  have h91 := h91.keep h80 eG6 (by decide)
  have h92 := h92.keep h80 eG6 (by decide)
  have h110 := h110.keep h80 eG6 (by decide)
  have h111 := h111.keep h80 eG6 (by decide)
  have h94 := h94.keep h80 eG6 (by decide)
  have h95 := h95.keep h80 eG6 (by decide)
  have h96 := h96.keep h80 eG6 (by decide)
  have h97 := h97.keep h80 eG6 (by decide)
  have h98 := h98.keep h80 eG6 (by decide)
  have h99 := h99.keep h80 eG6 (by decide)
  have h100 := h100.keep h80 eG6 (by decide)
  have h101 := h101.keep h80 eG6 (by decide)
  have h90 := h90.keep h80 eG6 (by decide)
  have h89 := h89.keep h80 eG6 (by decide)
  have h105 := h105.keep h80 eG6 (by decide)
  have h106 := h106.keep h80 eG6 (by decide)
  have h107 := h107.keep h80 eG6 (by decide)
  have h108 := h108.keep h80 eG6 (by decide)
  have h109 := h109.keep h80 eG6 (by decide)
  have h102 := h102.keep h80 eG6 (by decide)
  have h103 := h103.keep h80 eG6 (by decide)
  have h104 := h104.keep h80 eG6 (by decide)
  have hlen := (z_len eG6).trans hlen
  have hsl := (z_sl h80 eG6 rfl).trans hsl
  have hfr := hfr.wr h80 eG6 (by decide)
  have h80 := h80.kept eG6
  change ab_W _ _ _ (List.set G5 80 (ab_ob 12 (mof m_thrown m_taped m_length m_out m_wide m_gathered m_sets m_ranges m_nodes 0 wi 0 (-1) 0 0 m_value m_isNot m_least0 m_most0 m_slot m_work m_got m_rowMany m_charAt m_charWide m_trail m_isMatch m_matchGroups m_allFrom m_allBefore m_founds m_pieces m_writtenMany m_templateWide m_tooMuch))) 30 [some (vR 80), some (vz wi), none] [] _
  rw [← eG6]
  refine ab_aload_n d_MO_read_30 rfl ?_
  refine zz_iconst d_MO_read_31 ?_
  refine ab_putf (fs := mof m_thrown m_taped m_length m_out m_wide m_gathered m_sets m_ranges m_nodes 0 wi 0 (-1) 0 0 m_value m_isNot m_least0 m_most0 m_slot m_work m_got m_rowMany m_charAt m_charWide m_trail m_isMatch m_matchGroups m_allFrom m_allBefore m_founds m_pieces m_writtenMany m_templateWide m_tooMuch) f_MO_264 (Or.inl rfl) d_MO_read_32 h80.2.2 (Nat.le_of_ble_eq_true rfl) (fun _ => ⟨rfl, rfl⟩) (h80.2.1 (by decide)) ?_
  obtain ⟨G7, eG7⟩ : ∃ z : ab_G, z = List.set G6 80 (ab_ob 12 (mof m_thrown m_taped m_length m_out m_wide m_gathered m_sets m_ranges 0 0 wi 0 (-1) 0 0 m_value m_isNot m_least0 m_most0 m_slot m_work m_got m_rowMany m_charAt m_charWide m_trail m_isMatch m_matchGroups m_allFrom m_allBefore m_founds m_pieces m_writtenMany m_templateWide m_tooMuch)) := ⟨_, rfl⟩
  have h84 := h84.keep h80 eG7 (by decide)
  have h87 := h87.keep h80 eG7 (by decide)
  have h88 := h88.keep h80 eG7 (by decide)
  have h93 := h93.keep h80 eG7 (by decide)
  have h81 := h81.keep h80 eG7 (by decide)
  have h82 := h82.keep h80 eG7 (by decide)
  have h91 := h91.keep h80 eG7 (by decide)
  have h92 := h92.keep h80 eG7 (by decide)
  have h110 := h110.keep h80 eG7 (by decide)
  have h111 := h111.keep h80 eG7 (by decide)
  have h94 := h94.keep h80 eG7 (by decide)
  have h95 := h95.keep h80 eG7 (by decide)
  have h96 := h96.keep h80 eG7 (by decide)
  have h97 := h97.keep h80 eG7 (by decide)
  have h98 := h98.keep h80 eG7 (by decide)
  have h99 := h99.keep h80 eG7 (by decide)
  have h100 := h100.keep h80 eG7 (by decide)
  have h101 := h101.keep h80 eG7 (by decide)
  have h90 := h90.keep h80 eG7 (by decide)
  have h89 := h89.keep h80 eG7 (by decide)
  have h105 := h105.keep h80 eG7 (by decide)
  have h106 := h106.keep h80 eG7 (by decide)
  have h107 := h107.keep h80 eG7 (by decide)
  have h108 := h108.keep h80 eG7 (by decide)
  have h109 := h109.keep h80 eG7 (by decide)
  have h102 := h102.keep h80 eG7 (by decide)
  have h103 := h103.keep h80 eG7 (by decide)
  have h104 := h104.keep h80 eG7 (by decide)
  have hlen := (z_len eG7).trans hlen
  have hsl := (z_sl h80 eG7 rfl).trans hsl
  have hfr := hfr.wr h80 eG7 (by decide)
  have h80 := h80.kept eG7
  change ab_W _ _ _ (List.set G6 80 (ab_ob 12 (mof m_thrown m_taped m_length m_out m_wide m_gathered m_sets m_ranges 0 0 wi 0 (-1) 0 0 m_value m_isNot m_least0 m_most0 m_slot m_work m_got m_rowMany m_charAt m_charWide m_trail m_isMatch m_matchGroups m_allFrom m_allBefore m_founds m_pieces m_writtenMany m_templateWide m_tooMuch))) 35 [some (vR 80), some (vz wi), none] [] _
  rw [← eG7]
  refine ab_aload_n d_MO_read_35 rfl ?_
  refine zz_iconst d_MO_read_36 ?_
  refine ab_putf (fs := mof m_thrown m_taped m_length m_out m_wide m_gathered m_sets m_ranges 0 0 wi 0 (-1) 0 0 m_value m_isNot m_least0 m_most0 m_slot m_work m_got m_rowMany m_charAt m_charWide m_trail m_isMatch m_matchGroups m_allFrom m_allBefore m_founds m_pieces m_writtenMany m_templateWide m_tooMuch) f_MO_258 (Or.inl rfl) d_MO_read_37 h80.2.2 (Nat.le_of_ble_eq_true rfl) (fun _ => ⟨rfl, rfl⟩) (h80.2.1 (by decide)) ?_
  obtain ⟨G8, eG8⟩ : ∃ z : ab_G, z = List.set G7 80 (ab_ob 12 (mof m_thrown m_taped m_length m_out m_wide m_gathered 0 m_ranges 0 0 wi 0 (-1) 0 0 m_value m_isNot m_least0 m_most0 m_slot m_work m_got m_rowMany m_charAt m_charWide m_trail m_isMatch m_matchGroups m_allFrom m_allBefore m_founds m_pieces m_writtenMany m_templateWide m_tooMuch)) := ⟨_, rfl⟩
  have h84 := h84.keep h80 eG8 (by decide)
  have h87 := h87.keep h80 eG8 (by decide)
  have h88 := h88.keep h80 eG8 (by decide)
  have h93 := h93.keep h80 eG8 (by decide)
  have h81 := h81.keep h80 eG8 (by decide)
  have h82 := h82.keep h80 eG8 (by decide)
  have h91 := h91.keep h80 eG8 (by decide)
  have h92 := h92.keep h80 eG8 (by decide)
  have h110 := h110.keep h80 eG8 (by decide)
  have h111 := h111.keep h80 eG8 (by decide)
  have h94 := h94.keep h80 eG8 (by decide)
  have h95 := h95.keep h80 eG8 (by decide)
  have h96 := h96.keep h80 eG8 (by decide)
  have h97 := h97.keep h80 eG8 (by decide)
  have h98 := h98.keep h80 eG8 (by decide)
  have h99 := h99.keep h80 eG8 (by decide)
  have h100 := h100.keep h80 eG8 (by decide)
  have h101 := h101.keep h80 eG8 (by decide)
  have h90 := h90.keep h80 eG8 (by decide)
  have h89 := h89.keep h80 eG8 (by decide)
  have h105 := h105.keep h80 eG8 (by decide)
  have h106 := h106.keep h80 eG8 (by decide)
  have h107 := h107.keep h80 eG8 (by decide)
  have h108 := h108.keep h80 eG8 (by decide)
  have h109 := h109.keep h80 eG8 (by decide)
  have h102 := h102.keep h80 eG8 (by decide)
  have h103 := h103.keep h80 eG8 (by decide)
  have h104 := h104.keep h80 eG8 (by decide)
  have hlen := (z_len eG8).trans hlen
  have hsl := (z_sl h80 eG8 rfl).trans hsl
  have hfr := hfr.wr h80 eG8 (by decide)
  have h80 := h80.kept eG8
  change ab_W _ _ _ (List.set G7 80 (ab_ob 12 (mof m_thrown m_taped m_length m_out m_wide m_gathered 0 m_ranges 0 0 wi 0 (-1) 0 0 m_value m_isNot m_least0 m_most0 m_slot m_work m_got m_rowMany m_charAt m_charWide m_trail m_isMatch m_matchGroups m_allFrom m_allBefore m_founds m_pieces m_writtenMany m_templateWide m_tooMuch))) 40 [some (vR 80), some (vz wi), none] [] _
  rw [← eG8]
  refine ab_aload_n d_MO_read_40 rfl ?_
  refine zz_iconst d_MO_read_41 ?_
  refine ab_putf (fs := mof m_thrown m_taped m_length m_out m_wide m_gathered 0 m_ranges 0 0 wi 0 (-1) 0 0 m_value m_isNot m_least0 m_most0 m_slot m_work m_got m_rowMany m_charAt m_charWide m_trail m_isMatch m_matchGroups m_allFrom m_allBefore m_founds m_pieces m_writtenMany m_templateWide m_tooMuch) f_MO_248 (Or.inl rfl) d_MO_read_42 h80.2.2 (Nat.le_of_ble_eq_true rfl) (fun _ => ⟨rfl, rfl⟩) (h80.2.1 (by decide)) ?_
  obtain ⟨G9, eG9⟩ : ∃ z : ab_G, z = List.set G8 80 (ab_ob 12 (mof m_thrown m_taped m_length m_out m_wide m_gathered 0 0 0 0 wi 0 (-1) 0 0 m_value m_isNot m_least0 m_most0 m_slot m_work m_got m_rowMany m_charAt m_charWide m_trail m_isMatch m_matchGroups m_allFrom m_allBefore m_founds m_pieces m_writtenMany m_templateWide m_tooMuch)) := ⟨_, rfl⟩
  have h84 := h84.keep h80 eG9 (by decide)
  have h87 := h87.keep h80 eG9 (by decide)
  have h88 := h88.keep h80 eG9 (by decide)
  have h93 := h93.keep h80 eG9 (by decide)
  have h81 := h81.keep h80 eG9 (by decide)
  have h82 := h82.keep h80 eG9 (by decide)
  have h91 := h91.keep h80 eG9 (by decide)
  have h92 := h92.keep h80 eG9 (by decide)
  have h110 := h110.keep h80 eG9 (by decide)
  have h111 := h111.keep h80 eG9 (by decide)
  have h94 := h94.keep h80 eG9 (by decide)
  have h95 := h95.keep h80 eG9 (by decide)
  have h96 := h96.keep h80 eG9 (by decide)
  have h97 := h97.keep h80 eG9 (by decide)
  have h98 := h98.keep h80 eG9 (by decide)
  have h99 := h99.keep h80 eG9 (by decide)
  have h100 := h100.keep h80 eG9 (by decide)
  have h101 := h101.keep h80 eG9 (by decide)
  have h90 := h90.keep h80 eG9 (by decide)
  have h89 := h89.keep h80 eG9 (by decide)
  have h105 := h105.keep h80 eG9 (by decide)
  have h106 := h106.keep h80 eG9 (by decide)
  have h107 := h107.keep h80 eG9 (by decide)
  have h108 := h108.keep h80 eG9 (by decide)
  have h109 := h109.keep h80 eG9 (by decide)
  have h102 := h102.keep h80 eG9 (by decide)
  have h103 := h103.keep h80 eG9 (by decide)
  have h104 := h104.keep h80 eG9 (by decide)
  have hlen := (z_len eG9).trans hlen
  have hsl := (z_sl h80 eG9 rfl).trans hsl
  have hfr := hfr.wr h80 eG9 (by decide)
  have h80 := h80.kept eG9
  change ab_W _ _ _ (List.set G8 80 (ab_ob 12 (mof m_thrown m_taped m_length m_out m_wide m_gathered 0 0 0 0 wi 0 (-1) 0 0 m_value m_isNot m_least0 m_most0 m_slot m_work m_got m_rowMany m_charAt m_charWide m_trail m_isMatch m_matchGroups m_allFrom m_allBefore m_founds m_pieces m_writtenMany m_templateWide m_tooMuch))) 45 [some (vR 80), some (vz wi), none] [] _
  rw [← eG9]
  have ptrI_0 : trI o G9 0 0 0 0 (-1) 0 0 ([]) 2 0 0 (fun _ _ => False) ([]) mnI mnI mnI RL RH 0 0 0 := ⟨K_o, O_o, Fi_o, Be_o, Le_o, Mo_o, Z_o, LZ_o, SM_o, SA_o, QF_o, QL_o, AF_o, AL_o, SD_o, OA_o, OF_o, ON_o, h94, h95, h96, h97, h98, h99, h100, h101, h90, h89, h105, h106, h107, h108, h109, h102, h103, h104, jk_o, jo_o, jfi_o, jbe_o, jle_o, jmo_o, jz_o, jlz_o, jsm_o, jsa_o, jqf_o, jql_o, jaf_o, jal_o, jsd_o, joa_o, jof_o, jon_o, rtk_nil, (by omega), (fun h => absurd h (by decide)), (fun h => absurd h (by decide)), (fun h => absurd h (by decide)), (fun h => absurd h (by decide)), (fun h => absurd h (by decide)), (fun h => absurd h (by decide)), sas_0, svR_0⟩
  refine ab_aload_n d_MO_read_45 rfl ?_
  refine zz_iconst d_MO_read_46 ?_
  refine ab_aload_n d_MO_read_47 rfl ?_
  refine ab_getf (fs := mof m_thrown m_taped m_length m_out m_wide m_gathered 0 0 0 0 wi 0 (-1) 0 0 m_value m_isNot m_least0 m_most0 m_slot m_work m_got m_rowMany m_charAt m_charWide m_trail m_isMatch m_matchGroups m_allFrom m_allBefore m_founds m_pieces m_writtenMany m_templateWide m_tooMuch) f_MO_276 d_MO_read_48 h80.2.2 rfl ?_
  refine zz_iconst d_MO_read_51 ?_
  refine ab_callV (d' := d - 1) (as := [vz (-1), vz wi, vz 0]) (st := []) (r := _) (z_MO_openGroup (o := o) (m_thrown := m_thrown) (m_taped := m_taped) (m_length := m_length) (m_out := m_out) (m_wide := m_wide) (m_gathered := m_gathered) (m_sets := 0) (m_ranges := 0) (m_nodes := 0) (m_at := 0) (m_flags := wi) (m_fault := 0) (m_place := (-1)) (m_numbered := 0) (m_depth := 0) (m_value := m_value) (m_isNot := m_isNot) (m_least0 := m_least0) (m_most0 := m_most0) (m_slot := m_slot) (m_work := m_work) (m_got := m_got) (m_rowMany := m_rowMany) (m_charAt := m_charAt) (m_charWide := m_charWide) (m_trail := m_trail) (m_isMatch := m_isMatch) (m_matchGroups := m_matchGroups) (m_allFrom := m_allFrom) (m_allBefore := m_allBefore) (m_founds := m_founds) (m_pieces := m_pieces) (m_writtenMany := m_writtenMany) (m_templateWide := m_templateWide) (m_tooMuch := m_tooMuch) (x := (-1)) (y := wi) (w := 0) (dn := (-1)) (dh := 0) (re_ := 0) (fr := []) (rp := 2) (ls := 0) (dz := 0) (SV := (fun _ _ => False)) (FS := []) (ro := mnI) (vv := mnI) (dv := mnI) (b2_ := 0) (nu9 := 0) (fo9 := 0) (RL := RL) (RH := RH) h80 ptrI_0 (by omega) (by omega) (by omega) (Or.inl rfl) (by omega)) (fun oc G2 h => by rcases h with ⟨h, _⟩ <;> exact ⟨_, h⟩) (by omega) m_MO_openGroup ml_MO_392 im_MO_openGroup se_MO_openGroup c_MO h80.2.2 (Nat.le_of_ble_eq_true rfl) d_MO_read_52 rfl ?_
  intro v G10 hq
  rcases hq with ⟨hv, hfk, hlk, hsk, pNtrI_0⟩
  cases hv
  have h80 := hfk.get h80 (by decide)
  have h84 := hfk.get h84 (by decide)
  have h87 := hfk.get h87 (by decide)
  have h88 := hfk.get h88 (by decide)
  have h93 := hfk.get h93 (by decide)
  have h81 := hfk.get h81 (by decide)
  have h82 := hfk.get h82 (by decide)
  have h91 := hfk.get h91 (by decide)
  have h92 := hfk.get h92 (by decide)
  have h110 := hfk.get h110 (by decide)
  have h111 := hfk.get h111 (by decide)
  have ptrI_0 := pNtrI_0
  have hfr := hfr.tr hfk (by decide)
  have hlen := hlk.trans hlen
  have hsl := hsk.trans hsl
  change ab_W _ _ _ G10 55 [some (vR 80), some (vz wi), none] [] _
  refine y_MO_read_55 (m_thrown := m_thrown) (m_taped := m_taped) (m_length := m_length) (m_out := m_out) (m_slot := m_slot) (m_work := m_work) (m_got := m_got) (m_rowMany := m_rowMany) (m_charAt := m_charAt) (m_charWide := m_charWide) (m_trail := m_trail) (m_isMatch := m_isMatch) (m_matchGroups := m_matchGroups) (m_allFrom := m_allFrom) (m_allBefore := m_allBefore) (m_founds := m_founds) (m_pieces := m_pieces) (m_writtenMany := m_writtenMany) (m_templateWide := m_templateWide) (m_tooMuch := m_tooMuch) (A_tape := A_tape) (wi := wi) (G0 := G10) (m_at := 0) (m_value := m_value) (m_isNot := m_isNot) (m_wide := m_wide) (m_gathered := m_gathered) (m_sets := 0) (m_ranges := 0) (m_nodes := 0) (m_flags := wi) (m_numbered := 0) (m_depth := 0) (m_least0 := m_least0) (m_most0 := m_most0) (m_fault := 0) (m_place := (-1)) (LO := LO) (HI := HI) (MK := MK) (RL := RL) (RH := RH) (NS := NS) (NM := NM) (ms := (m_taped + 1 - 0)) (a1_ := (-1)) (b1_ := 0) (c1_ := 0) (d1_ := 0) (e1_ := 0) (t1_ := ([])) (rp := 0) (ls := 0) (na := (fun _ => 0)) (nl := (fun _ => 0)) (SV := (fun _ _ => False)) (ao1_ := none) (ro1_ := mnI) (ts1_ := ([])) (ro := mnI) (vv := mnI) (by omega) (by omega) jtp (by omega) (by omega) (Int.toNat (m_taped + 1 - 0) + 1) h80 h84 h87 h88 h93 h81 h82 h91 h92 h110 h111 ptrI_0 (by omega) (fun _ => by omega) jmk jrl jrh jns jnm (rdJ_0 (by omega) (by omega) (by omega)) fx.rf rfl rfl (by omega) (fun G11 a212 v213 nt214 w215 g216 s217 r218 n219 fl220 nu221 d222 le223 mo224 f225 p226 LO227 HI228 MK229 RL230 RH231 NS232 NM233 a334 b335 c336 d337 e338 t339 rp340 ls341 na342 nl343 SV344 ao345 ro346 ts347 rq348 vv349 hN80 hN87 hN88 hN93 hN91 hN92 hN110 hN111 pNtrI_0 hq50 hq51 hq52 hq53 hq54 hq55 hq56 hq57 hq58 hfk hlk hsk => ?_)
  · have h84 := hfk.get h84 (by decide)
    have h81 := hfk.get h81 (by decide)
    have h82 := hfk.get h82 (by decide)
    have hfr := hfr.tr hfk (by decide)
    have hlen := hlk.trans hlen
    have hsl := hsk.trans hsl
    have h80 := hN80
    have h87 := hN87
    have h88 := hN88
    have h93 := hN93
    have h91 := hN91
    have h92 := hN92
    have h110 := hN110
    have h111 := hN111
    have ptrI_0 := pNtrI_0
    change ab_W _ _ _ G11 80 [some (vR 80), none, none] [] _
    obtain ⟨K, O, Fi, Be, Le, Mo, Z, LZ, SM, SA, QF, QL, AF, AL, SD, OA, OF, ON, h94, h95, h96, h97, h98, h99, h100, h101, h90, h89, h105, h106, h107, h108, h109, h102, h103, h104, jk, jo, jfi, jbe, jle, jmo, jz, jlz, jsm, jsa, jqf, jql, jaf, jal, jsd, joa, jof, jon, jt, cnd, cre, crs, crz, ck5, ck6, ck7, jss, jsv⟩ := ptrI_0
    have hln_ := jt.j.len
    have hls_ := jt.len
    have ptrI_0 : trI o G11 0 n219 s217 (d222 + 1) (-1) 0 0 ((a334, b335, c336, d337, e338) :: t339) rp340 ls341 0 SV344 ((ao345, ro346) :: ts347) rq348 vv349 mnI RL230 RH231 r218 0 0 := ⟨K, O, Fi, Be, Le, Mo, Z, LZ, SM, SA, QF, QL, AF, AL, SD, OA, OF, ON, h94, h95, h96, h97, h98, h99, h100, h101, h90, h89, h105, h106, h107, h108, h109, h102, h103, h104, jk, jo, jfi, jbe, jle, jmo, jz, jlz, jsm, jsa, jqf, jql, jaf, jal, jsd, joa, jof, jon, jt, (by omega), (fun h => absurd h (by decide)), (fun h => absurd h (by decide)), (fun h => absurd h (by decide)), (fun h => absurd h (by decide)), (fun h => absurd h (by decide)), (fun h => absurd h (by decide)), jss, jsv⟩
    refine ab_aload_n d_MO_read_80 rfl ?_
    refine ab_getf (fs := mof m_thrown m_taped m_length m_out w215 g216 s217 r218 n219 a212 fl220 f225 p226 nu221 d222 v213 nt214 le223 mo224 m_slot m_work m_got m_rowMany m_charAt m_charWide m_trail m_isMatch m_matchGroups m_allFrom m_allBefore m_founds m_pieces m_writtenMany m_templateWide m_tooMuch) f_MO_273 d_MO_read_81 h80.2.2 rfl ?_
    refine zz_if_ne (tgt := 108) d_MO_read_84 (by decide) (by omega) (fun c59 => ?_) (fun c59 => ?_)
    · refine ab_aload_n d_MO_read_108 rfl ?_
      refine ab_getf (fs := mof m_thrown m_taped m_length m_out w215 g216 s217 r218 n219 a212 fl220 f225 p226 nu221 d222 v213 nt214 le223 mo224 m_slot m_work m_got m_rowMany m_charAt m_charWide m_trail m_isMatch m_matchGroups m_allFrom m_allBefore m_founds m_pieces m_writtenMany m_templateWide m_tooMuch) f_MO_273 d_MO_read_109 h80.2.2 rfl ?_
      refine zz_if_le (tgt := 117) d_MO_read_112 (by decide) (by omega) (fun c60 => absurd c60 (by omega)) (fun c60 => ?_)
      refine zz_iconst d_MO_read_115 ?_
      refine zz_iret rfl d_MO_read_116 ?_
      rw [hQ]; exact (Or.inr ⟨_, _, _, _, _, _, _, _, _, _, _, _, _, _, _, _, _, _, _, _, _, _, _, _, _, _, _, _, _, _, _, _, _, _, _, rfl, hfr, hlen, hsl, h80, h87, h88, h93, h91, h92, h110, h111, ptrI_0, (by omega), (by first | exact hq52 | exact rgs_w hq52 (by omega)), (by first | exact hq53 | exact rgs_w hq53 (by omega)), (by first | exact hq54 | exact rgs_w hq54 (by omega)), (by first | exact hq55 | exact rgs_w hq55 (by omega)), (by first | exact hq56 | exact rgs_w hq56 (by omega)), (by exact rdJ_w hq57 (by omega))⟩)
    · refine ab_aload_n d_MO_read_87 rfl ?_
      refine ab_getf (fs := mof m_thrown m_taped m_length m_out w215 g216 s217 r218 n219 a212 fl220 f225 p226 nu221 d222 v213 nt214 le223 mo224 m_slot m_work m_got m_rowMany m_charAt m_charWide m_trail m_isMatch m_matchGroups m_allFrom m_allBefore m_founds m_pieces m_writtenMany m_templateWide m_tooMuch) f_MO_282 d_MO_read_88 h80.2.2 rfl ?_
      refine zz_if_le (tgt := 108) d_MO_read_91 (by decide) (by omega) (fun c61 => ?_) (fun c61 => ?_)
      · refine ab_aload_n d_MO_read_108 rfl ?_
        refine ab_getf (fs := mof m_thrown m_taped m_length m_out w215 g216 s217 r218 n219 a212 fl220 f225 p226 nu221 d222 v213 nt214 le223 mo224 m_slot m_work m_got m_rowMany m_charAt m_charWide m_trail m_isMatch m_matchGroups m_allFrom m_allBefore m_founds m_pieces m_writtenMany m_templateWide m_tooMuch) f_MO_273 d_MO_read_109 h80.2.2 rfl ?_
        refine zz_if_le (tgt := 117) d_MO_read_112 (by decide) (by omega) (fun c62 => ?_) (fun c62 => absurd c62 (by omega))
        refine ab_aload_n d_MO_read_117 rfl ?_
        refine ab_callV (d' := d - 1) (as := []) (st := []) (r := _) (z_MO_closeAll (o := o) (m_thrown := m_thrown) (m_taped := m_taped) (m_length := m_length) (m_out := m_out) (m_wide := w215) (m_gathered := g216) (m_sets := s217) (m_ranges := r218) (m_nodes := n219) (m_at := a212) (m_flags := fl220) (m_fault := f225) (m_place := p226) (m_numbered := nu221) (m_depth := d222) (m_value := v213) (m_isNot := nt214) (m_least0 := le223) (m_most0 := mo224) (m_slot := m_slot) (m_work := m_work) (m_got := m_got) (m_rowMany := m_rowMany) (m_charAt := m_charAt) (m_charWide := m_charWide) (m_trail := m_trail) (m_isMatch := m_isMatch) (m_matchGroups := m_matchGroups) (m_allFrom := m_allFrom) (m_allBefore := m_allBefore) (m_founds := m_founds) (m_pieces := m_pieces) (m_writtenMany := m_writtenMany) (m_templateWide := m_templateWide) (m_tooMuch := m_tooMuch) (re_ := 0) (rp := rp340) (ls := ls341) (SV := SV344) (ro := rq348) (vv := vv349) (a1_ := a334) (b1_ := b335) (c1_ := c336) (d1_ := d337) (e1_ := e338) (nu9 := 0) (fo9 := 0) (t1_ := t339) (ao1_ := ao345) (ro1_ := ro346) (ts1_ := ts347) (RL := RL230) (RH := RH231) h80 ptrI_0 (by omega) (by omega) (by omega) (by omega)) (fun oc G2 h => by rcases h with ⟨h, _⟩ <;> exact ⟨_, h⟩) (by omega) m_MO_closeAll ml_MO_398 im_MO_closeAll se_MO_closeAll c_MO h80.2.2 (Nat.le_of_ble_eq_true rfl) d_MO_read_118 rfl ?_
        intro v G63 hq
        rcases hq with ⟨hv, hfk, hlk, hsk, hN80, pNtrI_0⟩
        cases hv
        have h84 := hfk.get h84 (by decide)
        have h87 := hfk.get h87 (by decide)
        have h88 := hfk.get h88 (by decide)
        have h93 := hfk.get h93 (by decide)
        have h81 := hfk.get h81 (by decide)
        have h82 := hfk.get h82 (by decide)
        have h91 := hfk.get h91 (by decide)
        have h92 := hfk.get h92 (by decide)
        have h110 := hfk.get h110 (by decide)
        have h111 := hfk.get h111 (by decide)
        have ptrI_0 := pNtrI_0
        have hfr := hfr.tr hfk (by decide)
        have hlen := hlk.trans hlen
        have hsl := hsk.trans hsl
        have h80 := hN80
        change ab_W _ _ _ G63 121 [some (vR 80), none, none] [vz (n219 + 1)] _
        refine ab_istore_n d_MO_read_121 (Nat.le_of_ble_eq_true rfl) (Nat.le_of_ble_eq_true rfl) rfl ?_
        change ab_W _ _ _ G63 122 [some (vR 80), none, some (vz (n219 + 1))] [] _
        obtain ⟨K, O, Fi, Be, Le, Mo, Z, LZ, SM, SA, QF, QL, AF, AL, SD, OA, OF, ON, h94, h95, h96, h97, h98, h99, h100, h101, h90, h89, h105, h106, h107, h108, h109, h102, h103, h104, jk, jo, jfi, jbe, jle, jmo, jz, jlz, jsm, jsa, jqf, jql, jaf, jal, jsd, joa, jof, jon, jt, cnd, cre, crs, crz, ck5, ck6, ck7, jss, jsv⟩ := ptrI_0
        have hin_ := (rtr_in jt.j.r).1 (by omega)
        have hzi_ := rtr_z jt.j.r (i := (n219 + 1)) (by omega)
        have hdq_ := jt.j.dq (by omega)
        have hdc_ := hdq_.1
        unfold ceq at hdc_
        refine ab_aload_n d_MO_read_122 rfl ?_
        refine ab_getf (fs := mof m_thrown m_taped m_length m_out w215 g216 s217 r218 (n219 + 1 + 1) a212 fl220 f225 p226 nu221 d222 v213 nt214 le223 mo224 m_slot m_work m_got m_rowMany m_charAt m_charWide m_trail m_isMatch m_matchGroups m_allFrom m_allBefore m_founds m_pieces m_writtenMany m_templateWide m_tooMuch) f_MO_68 d_MO_read_123 h80.2.2 rfl ?_
        refine ab_iload_n d_MO_read_126 rfl ?_
        refine zz_lald d_MO_read_127 h100 (by omega) ?_
        have hq64 := jz (n219 + 1) (by omega) (by omega)
        refine zz_ldc2 400 d_MO_read_128 cn_MO_436 ?_
        refine zz_lcmp d_MO_read_131 (by omega) (by omega) (fun c65a => ?_) (fun c65a c65b => ?_) (fun c65a => ?_)
        · refine zz_if_le (tgt := 142) d_MO_read_132 (by decide) (by decide) (fun c66 => ?_) (fun c66 => absurd c66 (by decide))
          have ptrI_0 : trI o G63 0 (n219 + 1 + 1) s217 d222 (n219 + 1) (31 - d222) 3 t339 2 0 (e338 + d337) SV344 ts347 mnI mnI (opO ao345 ro346) RL230 RH231 r218 0 0 := ⟨K, O, Fi, Be, Le, Mo, Z, LZ, SM, SA, QF, QL, AF, AL, SD, OA, OF, ON, h94, h95, h96, h97, h98, h99, h100, h101, h90, h89, h105, h106, h107, h108, h109, h102, h103, h104, jk, jo, jfi, jbe, jle, jmo, jz, jlz, jsm, jsa, jqf, jql, jaf, jal, jsd, joa, jof, jon, jt, (by omega), (fun h => absurd h (by decide)), (fun h => absurd h (by decide)), (fun _ => by omega), (fun h => absurd h (by decide)), (fun h => absurd h (by decide)), (fun h => absurd h (by decide)), jss, jsv⟩
          refine ab_iload_n d_MO_read_142 rfl ?_
          refine zz_iret rfl d_MO_read_143 ?_
          rw [hQ]; exact (Or.inl ⟨_, _, _, _, _, _, _, _, _, _, _, _, _, _, _, _, _, _, _, _, _, _, _, t339, (e338 + d337), SV344, ts347, (opO ao345 ro346), rfl, hfr, hlen, hsl, h80, h87, h88, h93, h91, h92, h110, h111, ptrI_0, (by omega), (by first | exact hq52 | exact rgs_w hq52 (by omega)), (by first | exact hq53 | exact rgs_w hq53 (by omega)), (by first | exact hq54 | exact rgs_w hq54 (by omega)), (by first | exact hq55 | exact rgs_w hq55 (by omega)), (by first | exact hq56 | exact rgs_w hq56 (by omega)), (by exact rdJ_k hq57 (by omega) (by omega) (List.eq_nil_of_length_eq_zero (by have t_ := hln_; simp only [List.length_cons] at t_; omega)) rfl (by omega)), (by exact rdJ_m hq57 (by omega) (by omega) (List.eq_nil_of_length_eq_zero (by have t_ := hls_; simp only [List.length_cons] at t_; omega))), (by exact (rdJ_h hq57 (by omega) cwi).1)⟩)
        · refine zz_if_le (tgt := 142) d_MO_read_132 (by decide) (by decide) (fun c67 => ?_) (fun c67 => absurd c67 (by decide))
          have ptrI_0 : trI o G63 0 (n219 + 1 + 1) s217 d222 (n219 + 1) (31 - d222) 3 t339 2 0 (e338 + d337) SV344 ts347 mnI mnI (opO ao345 ro346) RL230 RH231 r218 0 0 := ⟨K, O, Fi, Be, Le, Mo, Z, LZ, SM, SA, QF, QL, AF, AL, SD, OA, OF, ON, h94, h95, h96, h97, h98, h99, h100, h101, h90, h89, h105, h106, h107, h108, h109, h102, h103, h104, jk, jo, jfi, jbe, jle, jmo, jz, jlz, jsm, jsa, jqf, jql, jaf, jal, jsd, joa, jof, jon, jt, (by omega), (fun h => absurd h (by decide)), (fun h => absurd h (by decide)), (fun _ => by omega), (fun h => absurd h (by decide)), (fun h => absurd h (by decide)), (fun h => absurd h (by decide)), jss, jsv⟩
          refine ab_iload_n d_MO_read_142 rfl ?_
          refine zz_iret rfl d_MO_read_143 ?_
          rw [hQ]; exact (Or.inl ⟨_, _, _, _, _, _, _, _, _, _, _, _, _, _, _, _, _, _, _, _, _, _, _, t339, (e338 + d337), SV344, ts347, (opO ao345 ro346), rfl, hfr, hlen, hsl, h80, h87, h88, h93, h91, h92, h110, h111, ptrI_0, (by omega), (by first | exact hq52 | exact rgs_w hq52 (by omega)), (by first | exact hq53 | exact rgs_w hq53 (by omega)), (by first | exact hq54 | exact rgs_w hq54 (by omega)), (by first | exact hq55 | exact rgs_w hq55 (by omega)), (by first | exact hq56 | exact rgs_w hq56 (by omega)), (by exact rdJ_k hq57 (by omega) (by omega) (List.eq_nil_of_length_eq_zero (by have t_ := hln_; simp only [List.length_cons] at t_; omega)) rfl (by omega)), (by exact rdJ_m hq57 (by omega) (by omega) (List.eq_nil_of_length_eq_zero (by have t_ := hls_; simp only [List.length_cons] at t_; omega))), (by exact (rdJ_h hq57 (by omega) cwi).1)⟩)
        · refine zz_if_le (tgt := 142) d_MO_read_132 (by decide) (by decide) (fun c68 => absurd c68 (by decide)) (fun c68 => ?_)
          refine ab_aload_n d_MO_read_135 rfl ?_
          refine zz_bipush d_MO_read_136 (by decide) ?_
          refine zz_iconst d_MO_read_138 ?_
          refine ab_callV (d' := d - 1) (as := [vz 14, vz (-1)]) (st := []) (r := _) (z_MO_wrong (o := o) (m_thrown := m_thrown) (m_taped := m_taped) (m_length := m_length) (m_out := m_out) (m_wide := w215) (m_gathered := g216) (m_sets := s217) (m_ranges := r218) (m_nodes := (n219 + 1 + 1)) (m_at := a212) (m_flags := fl220) (m_fault := f225) (m_place := p226) (m_numbered := nu221) (m_depth := d222) (m_value := v213) (m_isNot := nt214) (m_least0 := le223) (m_most0 := mo224) (m_slot := m_slot) (m_work := m_work) (m_got := m_got) (m_rowMany := m_rowMany) (m_charAt := m_charAt) (m_charWide := m_charWide) (m_trail := m_trail) (m_isMatch := m_isMatch) (m_matchGroups := m_matchGroups) (m_allFrom := m_allFrom) (m_allBefore := m_allBefore) (m_founds := m_founds) (m_pieces := m_pieces) (m_writtenMany := m_writtenMany) (m_templateWide := m_templateWide) (m_tooMuch := m_tooMuch) (x := 14) (y := (-1)) h80 (by omega) (by omega)) (fun oc G2 h => by rcases h with ⟨h, _⟩ | ⟨h, _⟩ <;> exact ⟨_, h⟩) (by omega) m_MO_wrong ml_MO_304 im_MO_wrong se_MO_wrong c_MO h80.2.2 (Nat.le_of_ble_eq_true rfl) d_MO_read_139 rfl ?_
          intro v G69 hq
          rcases hq with ⟨hv, hfk, hlk, hsk, hN80, hq70⟩ | ⟨hv, hGe, hq71⟩
          · cases hv
            have h84 := hfk.get h84 (by decide)
            have h87 := hfk.get h87 (by decide)
            have h88 := hfk.get h88 (by decide)
            have h93 := hfk.get h93 (by decide)
            have h81 := hfk.get h81 (by decide)
            have h82 := hfk.get h82 (by decide)
            have h91 := hfk.get h91 (by decide)
            have h92 := hfk.get h92 (by decide)
            have h110 := hfk.get h110 (by decide)
            have h111 := hfk.get h111 (by decide)
            have h94 := hfk.get h94 (by decide)
            have h95 := hfk.get h95 (by decide)
            have h96 := hfk.get h96 (by decide)
            have h97 := hfk.get h97 (by decide)
            have h98 := hfk.get h98 (by decide)
            have h99 := hfk.get h99 (by decide)
            have h100 := hfk.get h100 (by decide)
            have h101 := hfk.get h101 (by decide)
            have h90 := hfk.get h90 (by decide)
            have h89 := hfk.get h89 (by decide)
            have h105 := hfk.get h105 (by decide)
            have h106 := hfk.get h106 (by decide)
            have h107 := hfk.get h107 (by decide)
            have h108 := hfk.get h108 (by decide)
            have h109 := hfk.get h109 (by decide)
            have h102 := hfk.get h102 (by decide)
            have h103 := hfk.get h103 (by decide)
            have h104 := hfk.get h104 (by decide)
            have hfr := hfr.tr hfk (by decide)
            have hlen := hlk.trans hlen
            have hsl := hsk.trans hsl
            have h80 := hN80
            change ab_W _ _ _ G69 142 [some (vR 80), none, some (vz (n219 + 1))] [] _
            have ptrI_0 : trI o G69 0 (n219 + 1 + 1) s217 d222 (n219 + 1) (31 - d222) 0 t339 2 0 (e338 + d337) SV344 ts347 mnI mnI (opO ao345 ro346) RL230 RH231 r218 0 0 := ⟨K, O, Fi, Be, Le, Mo, Z, LZ, SM, SA, QF, QL, AF, AL, SD, OA, OF, ON, h94, h95, h96, h97, h98, h99, h100, h101, h90, h89, h105, h106, h107, h108, h109, h102, h103, h104, jk, jo, jfi, jbe, jle, jmo, jz, jlz, jsm, jsa, jqf, jql, jaf, jal, jsd, joa, jof, jon, jt, (by omega), (fun h => absurd h (by decide)), (fun h => absurd h (by decide)), (fun h => absurd h (by decide)), (fun h => absurd h (by decide)), (fun h => absurd h (by decide)), (fun h => absurd h (by decide)), jss, jsv⟩
            refine ab_iload_n d_MO_read_142 rfl ?_
            refine zz_iret rfl d_MO_read_143 ?_
            rw [hQ]; exact (Or.inr ⟨_, _, _, _, _, _, _, _, _, _, _, _, _, _, _, _, _, _, _, _, _, _, _, _, _, _, _, _, _, _, _, _, _, _, _, rfl, hfr, hlen, hsl, h80, h87, h88, h93, h91, h92, h110, h111, ptrI_0, (by omega), (by first | exact hq52 | exact rgs_w hq52 (by omega)), (by first | exact hq53 | exact rgs_w hq53 (by omega)), (by first | exact hq54 | exact rgs_w hq54 (by omega)), (by first | exact hq55 | exact rgs_w hq55 (by omega)), (by first | exact hq56 | exact rgs_w hq56 (by omega)), (by exact rdJ_14 hq57 (by omega) (by omega) (List.eq_nil_of_length_eq_zero (by have t_ := hln_; simp only [List.length_cons] at t_; omega)) (by omega))⟩)
          · cases hv
            rw [hGe]
            change ab_W _ _ _ G63 142 [some (vR 80), none, some (vz (n219 + 1))] [] _
            exfalso; omega
      · obtain ⟨K, O, Fi, Be, Le, Mo, Z, LZ, SM, SA, QF, QL, AF, AL, SD, OA, OF, ON, h94, h95, h96, h97, h98, h99, h100, h101, h90, h89, h105, h106, h107, h108, h109, h102, h103, h104, jk, jo, jfi, jbe, jle, jmo, jz, jlz, jsm, jsa, jqf, jql, jaf, jal, jsd, joa, jof, jon, jt, cnd, cre, crs, crz, ck5, ck6, ck7, jss, jsv⟩ := ptrI_0
        obtain ⟨_, _, _, _, _, _, hq9_, hoa_, -⟩ := jt.j.hd (by omega)
        cases hq9_
        rw [show d222 + 1 - 1 = d222 by omega] at hoa_
        refine ab_aload_n d_MO_read_94 rfl ?_
        refine zz_iconst d_MO_read_95 ?_
        refine ab_aload_n d_MO_read_96 rfl ?_
        refine ab_getf (fs := mof m_thrown m_taped m_length m_out w215 g216 s217 r218 n219 a212 fl220 f225 p226 nu221 d222 v213 nt214 le223 mo224 m_slot m_work m_got m_rowMany m_charAt m_charWide m_trail m_isMatch m_matchGroups m_allFrom m_allBefore m_founds m_pieces m_writtenMany m_templateWide m_tooMuch) f_MO_79 d_MO_read_97 h80.2.2 rfl ?_
        refine ab_aload_n d_MO_read_100 rfl ?_
        refine ab_getf (fs := mof m_thrown m_taped m_length m_out w215 g216 s217 r218 n219 a212 fl220 f225 p226 nu221 d222 v213 nt214 le223 mo224 m_slot m_work m_got m_rowMany m_charAt m_charWide m_trail m_isMatch m_matchGroups m_allFrom m_allBefore m_founds m_pieces m_writtenMany m_templateWide m_tooMuch) f_MO_282 d_MO_read_101 h80.2.2 rfl ?_
        refine zz_iald d_MO_read_104 h102 (by omega) ?_
        have hq72 := joa d222 (by omega) (by omega)
        refine ab_callV (d' := d - 1) (as := [vz 2, vz (OA d222)]) (st := []) (r := _) (z_MO_wrong (o := o) (m_thrown := m_thrown) (m_taped := m_taped) (m_length := m_length) (m_out := m_out) (m_wide := w215) (m_gathered := g216) (m_sets := s217) (m_ranges := r218) (m_nodes := n219) (m_at := a212) (m_flags := fl220) (m_fault := f225) (m_place := p226) (m_numbered := nu221) (m_depth := d222) (m_value := v213) (m_isNot := nt214) (m_least0 := le223) (m_most0 := mo224) (m_slot := m_slot) (m_work := m_work) (m_got := m_got) (m_rowMany := m_rowMany) (m_charAt := m_charAt) (m_charWide := m_charWide) (m_trail := m_trail) (m_isMatch := m_isMatch) (m_matchGroups := m_matchGroups) (m_allFrom := m_allFrom) (m_allBefore := m_allBefore) (m_founds := m_founds) (m_pieces := m_pieces) (m_writtenMany := m_writtenMany) (m_templateWide := m_templateWide) (m_tooMuch := m_tooMuch) (x := 2) (y := (OA d222)) h80 (by omega) (by omega)) (fun oc G2 h => by rcases h with ⟨h, _⟩ | ⟨h, _⟩ <;> exact ⟨_, h⟩) (by omega) m_MO_wrong ml_MO_304 im_MO_wrong se_MO_wrong c_MO h80.2.2 (Nat.le_of_ble_eq_true rfl) d_MO_read_105 rfl ?_
        intro v G73 hq
        rcases hq with ⟨hv, hfk, hlk, hsk, hN80, hq74⟩ | ⟨hv, hGe, hq75⟩
        · cases hv
          have h84 := hfk.get h84 (by decide)
          have h87 := hfk.get h87 (by decide)
          have h88 := hfk.get h88 (by decide)
          have h93 := hfk.get h93 (by decide)
          have h81 := hfk.get h81 (by decide)
          have h82 := hfk.get h82 (by decide)
          have h91 := hfk.get h91 (by decide)
          have h92 := hfk.get h92 (by decide)
          have h110 := hfk.get h110 (by decide)
          have h111 := hfk.get h111 (by decide)
          have h94 := hfk.get h94 (by decide)
          have h95 := hfk.get h95 (by decide)
          have h96 := hfk.get h96 (by decide)
          have h97 := hfk.get h97 (by decide)
          have h98 := hfk.get h98 (by decide)
          have h99 := hfk.get h99 (by decide)
          have h100 := hfk.get h100 (by decide)
          have h101 := hfk.get h101 (by decide)
          have h90 := hfk.get h90 (by decide)
          have h89 := hfk.get h89 (by decide)
          have h105 := hfk.get h105 (by decide)
          have h106 := hfk.get h106 (by decide)
          have h107 := hfk.get h107 (by decide)
          have h108 := hfk.get h108 (by decide)
          have h109 := hfk.get h109 (by decide)
          have h102 := hfk.get h102 (by decide)
          have h103 := hfk.get h103 (by decide)
          have h104 := hfk.get h104 (by decide)
          have hfr := hfr.tr hfk (by decide)
          have hlen := hlk.trans hlen
          have hsl := hsk.trans hsl
          have h80 := hN80
          change ab_W _ _ _ G73 108 [some (vR 80), none, none] [] _
          have ptrI_0 : trI o G73 0 n219 s217 (d222 + 1) (-1) 0 0 ((a334, b335, c336, d337, e338) :: t339) rp340 ls341 0 SV344 ((ao345, ro346) :: ts347) rq348 vv349 mnI RL230 RH231 r218 0 0 := ⟨K, O, Fi, Be, Le, Mo, Z, LZ, SM, SA, QF, QL, AF, AL, SD, OA, OF, ON, h94, h95, h96, h97, h98, h99, h100, h101, h90, h89, h105, h106, h107, h108, h109, h102, h103, h104, jk, jo, jfi, jbe, jle, jmo, jz, jlz, jsm, jsa, jqf, jql, jaf, jal, jsd, joa, jof, jon, jt, (by omega), (fun h => absurd h (by decide)), (fun h => absurd h (by decide)), (fun h => absurd h (by decide)), (fun h => absurd h (by decide)), (fun h => absurd h (by decide)), (fun h => absurd h (by decide)), jss, jsv⟩
          refine ab_aload_n d_MO_read_108 rfl ?_
          refine ab_getf (fs := mof m_thrown m_taped m_length m_out w215 g216 s217 r218 n219 a212 fl220 2 (OA d222) nu221 d222 v213 nt214 le223 mo224 m_slot m_work m_got m_rowMany m_charAt m_charWide m_trail m_isMatch m_matchGroups m_allFrom m_allBefore m_founds m_pieces m_writtenMany m_templateWide m_tooMuch) f_MO_273 d_MO_read_109 h80.2.2 rfl ?_
          refine zz_if_le (tgt := 117) d_MO_read_112 (by decide) (by decide) (fun c76 => absurd c76 (by decide)) (fun c76 => ?_)
          refine zz_iconst d_MO_read_115 ?_
          refine zz_iret rfl d_MO_read_116 ?_
          rw [hQ]; exact (Or.inr ⟨_, _, _, _, _, _, _, _, _, _, _, _, _, _, _, _, _, _, _, _, _, _, _, _, _, _, _, _, _, _, _, _, _, _, _, rfl, hfr, hlen, hsl, h80, h87, h88, h93, h91, h92, h110, h111, ptrI_0, (by omega), (by first | exact hq52 | exact rgs_w hq52 (by omega)), (by first | exact hq53 | exact rgs_w hq53 (by omega)), (by first | exact hq54 | exact rgs_w hq54 (by omega)), (by first | exact hq55 | exact rgs_w hq55 (by omega)), (by first | exact hq56 | exact rgs_w hq56 (by omega)), (by rw [hoa_]; exact rdJ_2 hq57 (by omega) (by omega) (by have t_ := hln_; simp only [List.length_cons] at t_; omega))⟩)
        · cases hv
          rw [hGe]
          change ab_W _ _ _ G11 108 [some (vR 80), none, none] [] _
          exfalso; omega
