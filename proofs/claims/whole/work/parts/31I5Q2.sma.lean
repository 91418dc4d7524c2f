theorem rgs_add {f f2 : Int → Int} {sz lo hi x : Int} (h : rgs f sz lo hi) (hk : ∀ k : Int, 0 ≤ k → k < sz → f2 k = f k) (hx : f2 sz = x) (hb : lo ≤ x ∧ x ≤ hi) : rgs f2 (sz + 1) lo hi := fun k k0 k1 => by
  by_cases e : k = sz
  · rw [e, hx]; exact hb
  · rw [hk k k0 (by omega)]; exact h k k0 (by omega)
set_option maxRecDepth 100000 in
set_option maxHeartbeats 4000000 in
theorem z_PW_keep {X : ab_X} {d : Nat} {o : Nat → Nat} {G : ab_G} {w_ : Nat} {f_ready : Nat} {f_tape : Nat} {f_reader : Nat} {f_programs : Nat} {f_subject : Nat} {f_spans : Nat} {f_threads : Nat} {f_marks : Nat} {f_oneMind : Nat} {f_states : Nat} {f_latest : Nat} {f_matches : Nat} {f_pieces : Nat} {f_template : Nat} {f_result : Nat} {f_spare : Nat} {cmp : Int} {ovs : Int} {sb : Int} {cv : Int → Int} {x : Int} {sts : Int} (hw_ : cc o G w_ 18 (ab_ob 0 [vR f_ready, vR f_tape, vR f_reader, vR f_programs, vR f_subject, vR f_spans, vR f_threads, vR f_marks, vR f_oneMind, vR f_states, vR f_latest, vR f_matches, vR f_pieces, vR f_template, vR f_result, vR f_spare, vz cmp, vz ovs])) (pstI_f_states : stI o G f_states cv cmp sts sb) (n18 : ab_n0 = 18) (cr : -2147483648 ≤ x ∧ x ≤ 2147483647) (rc : G.length + 1 ≤ ab_n0 + room_1.cells) (rs : ab_slots G + 6 ≤ room_1.slots) (hd : 7 ≤ d) : ab_F X d y_PW_keep (.code y_PW_keep b_PW_keep 2 none) [vR w_, vz x] G (fun oc G2 => (∃ o2 : Nat → Nat, ∃ b : Nat, oc = .threw b ∧ fx o o2 [60] G G2 ∧ stI o2 G2 f_states cv cmp sts sb ∧ (G2[b]? = some (.inr (13, []))) ∧ (G2.length = G.length + 1) ∧ (ab_slots G2 = ab_slots G + 6) ∧ (x < 4 ∨ 64 < x)) ∨ (∃ o2 : Nat → Nat, oc = .returned none ∧ fx o o2 [60] G G2 ∧ stI o2 G2 f_states cv cmp sts sb ∧ (4 ≤ x ∧ x ≤ 64) ∧ (G2.length = G.length) ∧ (ab_slots G2 = ab_slots G))) := by
  refine ab_F_of (by decide +kernel) (Nat.le_of_ble_eq_true rfl) ?_
  obtain ⟨Q, hQ⟩ : ∃ z : Outcome → ab_G → Prop, z = (fun oc G2 => (∃ o2 : Nat → Nat, ∃ b : Nat, oc = .threw b ∧ fx o o2 [60] G G2 ∧ stI o2 G2 f_states cv cmp sts sb ∧ (G2[b]? = some (.inr (13, []))) ∧ (G2.length = G.length + 1) ∧ (ab_slots G2 = ab_slots G + 6) ∧ (x < 4 ∨ 64 < x)) ∨ (∃ o2 : Nat → Nat, oc = .returned none ∧ fx o o2 [60] G G2 ∧ stI o2 G2 f_states cv cmp sts sb ∧ (4 ≤ x ∧ x ≤ 64) ∧ (G2.length = G.length) ∧ (ab_slots G2 = ab_slots G))) := ⟨_, rfl⟩
  rw [← hQ]
  change ab_W X (ab_pl y_PW_keep b_PW_keep 2 none) d G 0 [some (vR w_), some (vz x)] [] Q
  have hfr : fx o o [60] G G := fx.rf
  refine ab_iload_n d_PW_keep_0 rfl ?_
  refine zz_iconst d_PW_keep_1 ?_
  refine zz_icmp_lt (tgt := 11) d_PW_keep_2 (by decide) (by omega) (by decide) (fun c1 => ?_) (fun c1 => ?_)
  · refine ab_throw (tx := "no such number of states") (by decide) (fun c h => h) cl_PW_109 inst_IA ini_IA tw_PW_113 d_PW_keep_11 d_PW_keep_14 d_PW_keep_15 d_PW_keep_17 d_PW_keep_20 (by omega) (by omega) (by omega) ?_
    obtain ⟨G2, eG2⟩ : ∃ z : ab_G, z = G ++ [.inr (13, [])] := ⟨_, rfl⟩
    obtain ⟨o3, eo3⟩ : ∃ z : Nat → Nat, z = ol o G.length 99 := ⟨_, rfl⟩
    obtain ⟨a4, ea4⟩ : ∃ z : Nat, z = G.length := ⟨_, rfl⟩
    have hq5 := hw_.n0 (by first | decide | omega)
    have ne_a4_w_ : nq a4 w_ := by have hlt := hw_.lt; unfold nq; omega
    have hw_ := hw_.akeep (k := 99) eG2
    rw [← eo3] at hw_
    have hst := (fx.rf (o := o) (S := []) (G := G)).ap (k := 99) eG2
    rw [← eo3] at hst
    have pstI_f_states := stI.fr hst pstI_f_states (by decide) (by decide) (by decide) (by decide) (by decide) (by decide) (by decide) (by decide) (by decide)
    have ha4 := cc.anew (o := o) 99 eG2 hq5
    rw [← eo3, ← ea4] at ha4
    have hfr := hfr.ap (k := 99) eG2
    rw [← eo3] at hfr
    have hq6 := z_alen eG2
    have hq7 : ab_slots G2 = ab_slots G + 6 := z_asl eG2 hq5
    rw [← ea4, ← eG2]
    rw [hQ]; exact (Or.inl ⟨_, _, rfl, hfr, pstI_f_states, (by exact ha4.2.2), (by omega), (by omega), (by omega)⟩)
  · refine ab_iload_n d_PW_keep_5 rfl ?_
    refine zz_bipush d_PW_keep_6 (by decide) ?_
    refine zz_icmp_le (tgt := 21) d_PW_keep_8 (by decide) (by omega) (by decide) (fun c8 => ?_) (fun c8 => ?_)
    · refine ab_aload_n d_PW_keep_21 rfl ?_
      refine ab_getf (fs := [vR f_ready, vR f_tape, vR f_reader, vR f_programs, vR f_subject, vR f_spans, vR f_threads, vR f_marks, vR f_oneMind, vR f_states, vR f_latest, vR f_matches, vR f_pieces, vR f_template, vR f_result, vR f_spare, vz cmp, vz ovs]) f_PW_69 d_PW_keep_22 hw_.2.2 rfl ?_
      refine ab_iload_n d_PW_keep_25 rfl ?_
      obtain ⟨cu_s, eg_s, po_s, bg_s, bd_s, sd_s, se__s, stk_s, mst_s, q0_s, vr_s, ro_s, cn_s, ct_s, sc_s, sta_s, arv_s, CU_s, EG_s, PO_s, BG_s, BD_s, SD_s, SE_s, SK_s, hf_states, hcu_s, heg_s, hpo_s, hbg_s, hbd_s, hsd_s, hse__s, hstk_s, jcu_s, ccn_s, cms_s, cvr_s, jbg_s, jpo_s, jbd_s, jeg_s, cro_s, cst0_s, jse_s, csb_s, jsq_s⟩ := pstI_f_states
      refine ab_callV (d' := d - 1) (as := [vz x]) (st := []) (r := _) (z_ST_holdAtMost (o := o) (a := f_states) (cu := cu_s) (eg := eg_s) (po := po_s) (bg := bg_s) (bd := bd_s) (sd := sd_s) (se_ := se__s) (stk := stk_s) (mst := mst_s) (q0 := q0_s) (vr := vr_s) (ro := ro_s) (cn := cn_s) (ct := ct_s) (sc := sc_s) (sta := sta_s) (arv := arv_s) (stp := sts) (mm := x) hf_states) (fun oc G2 h => by rcases h with ⟨h, _⟩ <;> exact ⟨_, h⟩) (by omega) m_ST_holdAtMost ml_PW_237 im_ST_holdAtMost se_ST_holdAtMost c_ST hf_states.2.2 (Nat.le_of_ble_eq_true rfl) d_PW_keep_26 rfl ?_
      intro v G9 hq
      rcases hq with ⟨hv, hfk, hlk, hsk, hNf_states⟩
      cases hv
      have hw_ := hfk.get hw_ (by decide)
      have hcu_s := hfk.get hcu_s (by decide)
      have heg_s := hfk.get heg_s (by decide)
      have hpo_s := hfk.get hpo_s (by decide)
      have hbg_s := hfk.get hbg_s (by decide)
      have hbd_s := hfk.get hbd_s (by decide)
      have hsd_s := hfk.get hsd_s (by decide)
      have hse__s := hfk.get hse__s (by decide)
      have hstk_s := hfk.get hstk_s (by decide)
      have hfr := hfr.tr hfk (by decide)
      have hq10 := hlk
      have hq11 := hsk
      have hf_states := hNf_states
      change ab_W _ _ _ G9 29 [some (vR w_), some (vz x)] [] _
      have pstI_f_states : stI o G9 f_states cv cmp sts sb := ⟨cu_s, eg_s, po_s, bg_s, bd_s, sd_s, se__s, stk_s, x, q0_s, vr_s, ro_s, cn_s, 0, sc_s, sta_s, arv_s, CU_s, EG_s, PO_s, BG_s, BD_s, SD_s, SE_s, SK_s, hf_states, hcu_s, heg_s, hpo_s, hbg_s, hbd_s, hsd_s, hse__s, hstk_s, jcu_s, (by omega), (by omega), (by omega), (bgo_0 jbg_s), (by rw [jbg_s.1]; exact ents_0), jbd_s, ego_0, (by omega), (by omega), jse_s, (by omega), jsq_s.z⟩
      refine ab_vret rfl d_PW_keep_29 ?_
      rw [hQ]; exact (Or.inr ⟨_, rfl, hfr, pstI_f_states, (by omega), (by omega), (by omega)⟩)
    · refine ab_throw (tx := "no such number of states") (by decide) (fun c h => h) cl_PW_109 inst_IA ini_IA tw_PW_113 d_PW_keep_11 d_PW_keep_14 d_PW_keep_15 d_PW_keep_17 d_PW_keep_20 (by omega) (by omega) (by omega) ?_
      obtain ⟨G12, eG12⟩ : ∃ z : ab_G, z = G ++ [.inr (13, [])] := ⟨_, rfl⟩
      obtain ⟨o13, eo13⟩ : ∃ z : Nat → Nat, z = ol o G.length 99 := ⟨_, rfl⟩
      obtain ⟨a14, ea14⟩ : ∃ z : Nat, z = G.length := ⟨_, rfl⟩
      have hq15 := hw_.n0 (by first | decide | omega)
      have ne_a14_w_ : nq a14 w_ := by have hlt := hw_.lt; unfold nq; omega
      have hw_ := hw_.akeep (k := 99) eG12
      rw [← eo13] at hw_
      have hst := (fx.rf (o := o) (S := []) (G := G)).ap (k := 99) eG12
      rw [← eo13] at hst
      have pstI_f_states := stI.fr hst pstI_f_states (by decide) (by decide) (by decide) (by decide) (by decide) (by decide) (by decide) (by decide) (by decide)
      have ha14 := cc.anew (o := o) 99 eG12 hq15
      rw [← eo13, ← ea14] at ha14
      have hfr := hfr.ap (k := 99) eG12
      rw [← eo13] at hfr
      have hq16 := z_alen eG12
      have hq17 : ab_slots G12 = ab_slots G + 6 := z_asl eG12 hq15
      rw [← ea14, ← eG12]
      rw [hQ]; exact (Or.inl ⟨_, _, rfl, hfr, pstI_f_states, (by exact ha14.2.2), (by omega), (by omega), (by omega)⟩)
set_option maxRecDepth 100000 in
set_option maxHeartbeats 4000000 in
theorem z_PW_about {X : ab_X} {d : Nat} {o : Nat → Nat} {G : ab_G} {w_ : Nat} {f_ready : Nat} {f_tape : Nat} {f_reader : Nat} {f_programs : Nat} {f_subject : Nat} {f_spans : Nat} {f_threads : Nat} {f_marks : Nat} {f_oneMind : Nat} {f_states : Nat} {f_latest : Nat} {f_matches : Nat} {f_pieces : Nat} {f_template : Nat} {f_result : Nat} {f_spare : Nat} {cmp : Int} {ovs : Int} {PG : Nat → Option Nat} {NR : Nat → Nat} {cv : Int → Int} {on : Nat} {sl : Int} {x : Int} {k_ : Nat} (hw_ : cc o G w_ 18 (ab_ob 0 [vR f_ready, vR f_tape, vR f_reader, vR f_programs, vR f_subject, vR f_spans, vR f_threads, vR f_marks, vR f_oneMind, vR f_states, vR f_latest, vR f_matches, vR f_pieces, vR f_template, vR f_result, vR f_spare, vz cmp, vz ovs])) (hf_programs : cc o G f_programs 81 (ab_rr 6 PG)) (ppgI_0 : pgI o G 0 PG NR cv cmp on) (hkq : kq6 sl k_) (cr : -2147483648 ≤ sl ∧ sl ≤ 2147483647 ∧ -2147483648 ≤ x ∧ x ≤ 2147483647) (hd : 1 ≤ d) : ab_F X d y_PW_about (.code y_PW_about b_PW_about 4 (some (.int))) [vR w_, vz sl, vz x] G (fun oc G2 => ∃ v : Int, oc = .returned (some (vz v)) ∧ G2 = G ∧ (abC PG cv sl x v)) := by
  refine ab_F_of (by decide +kernel) (Nat.le_of_ble_eq_true rfl) ?_
  obtain ⟨Q, hQ⟩ : ∃ z : Outcome → ab_G → Prop, z = (fun oc G2 => ∃ v : Int, oc = .returned (some (vz v)) ∧ G2 = G ∧ (abC PG cv sl x v)) := ⟨_, rfl⟩
  rw [← hQ]
  change ab_W X (ab_pl y_PW_about b_PW_about 4 (some (.int))) d G 0 [some (vR w_), some (vz sl), some (vz x), none] [] Q
  have hfr : fx o o [] G G := fx.rf
  have hlen : G.length = G.length := rfl
  have hsl : ab_slots G = ab_slots G := rfl
  refine ab_aload_n d_PW_about_0 rfl ?_
  refine ab_iload_n d_PW_about_1 rfl ?_
  refine ab_callV (d' := d - 1) (as := [vz sl]) (st := []) (r := _) (z_PW_programAt (o := o) (w_ := w_) (f_ready := f_ready) (f_tape := f_tape) (f_reader := f_reader) (f_programs := f_programs) (f_subject := f_subject) (f_spans := f_spans) (f_threads := f_threads) (f_marks := f_marks) (f_oneMind := f_oneMind) (f_states := f_states) (f_latest := f_latest) (f_matches := f_matches) (f_pieces := f_pieces) (f_template := f_template) (f_result := f_result) (f_spare := f_spare) (cmp := cmp) (ovs := ovs) (PG := PG) (k := sl) hw_ hf_programs (by omega)) (fun oc G2 h => by rcases h with ⟨h, _⟩ | ⟨_, h, _⟩ <;> exact ⟨_, h⟩) (by omega) m_PW_programAt ml_PW_148 im_PW_programAt se_PW_programAt c_PW hw_.2.2 (Nat.le_of_ble_eq_true rfl) d_PW_about_2 rfl ?_
  intro v G1 hq
  rcases hq with ⟨hv, hGe, hq2⟩ | ⟨b3, hv, hGe, hq4, hq5⟩
  · cases hv
    rw [hGe]
    change ab_W _ _ _ G 5 [some (vR w_), some (vz sl), some (vz x), none] [vN] _
    refine ab_astore_nN d_PW_about_5 (Nat.le_of_ble_eq_true rfl) (Nat.le_of_ble_eq_true rfl) rfl ?_
    change ab_W _ _ _ G 6 [some (vR w_), some (vz sl), some (vz x), some (vN)] [] _
    refine ab_aload_nN d_PW_about_6 rfl ?_
    refine ab_ifnullN (tgt := 19) d_PW_about_7 (by decide) ?_
    refine zz_iconst d_PW_about_19 ?_
    refine zz_iret rfl d_PW_about_20 ?_
    rw [hQ]; exact ⟨_, rfl, rfl, (by exact Or.inl ⟨Or.inl hq2, rfl⟩)⟩
  · cases hv
    rw [hGe]
    change ab_W _ _ _ G 5 [some (vR w_), some (vz sl), some (vz x), none] [vR b3] _
    refine ab_astore_n d_PW_about_5 (Nat.le_of_ble_eq_true rfl) (Nat.le_of_ble_eq_true rfl) rfl ?_
    change ab_W _ _ _ G 6 [some (vR w_), some (vz sl), some (vz x), some (vR b3)] [] _
    refine ab_aload_n d_PW_about_6 rfl ?_
    refine ab_ifnull d_PW_about_7 ?_
    refine ab_iload_n d_PW_about_10 rfl ?_
    refine zz_if_lt (tgt := 19) d_PW_about_11 (by decide) (by omega) (fun c6 => ?_) (fun c6 => ?_)
    · refine zz_iconst d_PW_about_19 ?_
      refine zz_iret rfl d_PW_about_20 ?_
      rw [hQ]; exact ⟨_, rfl, rfl, (by exact Or.inl ⟨Or.inr (by omega), rfl⟩)⟩
    · refine ab_iload_n d_PW_about_14 rfl ?_
      refine zz_iconst d_PW_about_15 ?_
      refine zz_icmp_le (tgt := 21) d_PW_about_16 (by decide) (by omega) (by decide) (fun c7 => ?_) (fun c7 => ?_)
      · have hk_ := hkq.2 (by omega) (by omega)
        rw [← hk_] at hq4
        have hk6_ : k_ < 6 := by omega
        obtain ⟨⟨mi_, sz_, ppgB_b3⟩, ppgX_0⟩ := ppgI_0.opn hk6_ hq4
        obtain ⟨ki_g, ne_g, ot_g, cnt_g, fi_g, la_g, ra_g, ru_g, gr_g, wi_g, fl_g, ve_g, na_g, nl_g, K_g, N_g, O_g, RR_g, NA_g, NL_g, hb3, hki_g, hne_g, hot_g, hra_g, hna_g, hnl_g, cq_g, hpu_g, hp_g, hr_g, hch_g, cru_g, ck9_g, cfi_g, cgr_g, cfl_g, hpo_g, hmi_g, hvc_g, cve_g, jnl_g, hiv_g, hmn_g, jna_g, hla_g, hpv_g, cv1_g, hkk_g, hoc_g, csz_g⟩ := ppgB_b3
        refine ab_iload_n d_PW_about_21 rfl ?_
        refine zz_if_ne (tgt := 30) d_PW_about_22 (by decide) (by omega) (fun c8 => ?_) (fun c8 => ?_)
        · refine ab_iload_n d_PW_about_30 rfl ?_
          refine zz_iconst d_PW_about_31 ?_
          refine zz_icmp_ne (tgt := 42) d_PW_about_32 (by decide) (by omega) (by decide) (fun c9 => ?_) (fun c9 => ?_)
          · refine ab_aload_n d_PW_about_42 rfl ?_
            refine ab_getf (fs := [vR ki_g, vR ne_g, vR ot_g, vz cnt_g, vz fi_g, vz la_g, vR ra_g, vz ru_g, vz gr_g, vz wi_g, vz sz_, vz fl_g, vz ve_g, vz mi_, vR na_g, vR nl_g]) f_PW_153 d_PW_about_43 hb3.2.2 rfl ?_
            refine zz_iret rfl d_PW_about_46 ?_
            rw [hQ]; exact ⟨_, rfl, rfl, (by refine Or.inr ⟨by omega, ?_, by omega, ?_⟩; (rw [← hk_]; exact ⟨_, hq4⟩); (rw [← hk_]; exact ivR_a hiv_g (Or.inr (Or.inr ⟨by omega, rfl⟩))))⟩
          · refine ab_aload_n d_PW_about_35 rfl ?_
            refine ab_getf (fs := [vR ki_g, vR ne_g, vR ot_g, vz cnt_g, vz fi_g, vz la_g, vR ra_g, vz ru_g, vz gr_g, vz wi_g, vz sz_, vz fl_g, vz ve_g, vz mi_, vR na_g, vR nl_g]) f_PW_152 d_PW_about_36 hb3.2.2 rfl ?_
            refine ab_goto (tgt := 46) d_PW_about_39 (by decide) ?_
            refine zz_iret rfl d_PW_about_46 ?_
            rw [hQ]; exact ⟨_, rfl, rfl, (by refine Or.inr ⟨by omega, ?_, by omega, ?_⟩; (rw [← hk_]; exact ⟨_, hq4⟩); (rw [← hk_]; exact ivR_a hiv_g (Or.inr (Or.inl ⟨by omega, rfl⟩))))⟩
        · refine ab_aload_n d_PW_about_25 rfl ?_
          refine ab_getf (fs := [vR ki_g, vR ne_g, vR ot_g, vz cnt_g, vz fi_g, vz la_g, vR ra_g, vz ru_g, vz gr_g, vz wi_g, vz sz_, vz fl_g, vz ve_g, vz mi_, vR na_g, vR nl_g]) f_PW_133 d_PW_about_26 hb3.2.2 rfl ?_
          refine zz_iret rfl d_PW_about_29 ?_
          rw [hQ]; exact ⟨_, rfl, rfl, (by refine Or.inr ⟨by omega, ?_, by omega, ?_⟩; (rw [← hk_]; exact ⟨_, hq4⟩); (rw [← hk_]; exact ivR_a hiv_g (Or.inl ⟨by omega, rfl⟩)))⟩
      · refine zz_iconst d_PW_about_19 ?_
        refine zz_iret rfl d_PW_about_20 ?_
        rw [hQ]; exact ⟨_, rfl, rfl, (by exact Or.inl ⟨Or.inr (by omega), rfl⟩)⟩
set_option maxRecDepth 100000 in
set_option maxHeartbeats 4000000 in
theorem z_PW_name {X : ab_X} {d : Nat} {o : Nat → Nat} {G : ab_G} {w_ : Nat} {f_ready : Nat} {f_tape : Nat} {f_reader : Nat} {f_programs : Nat} {f_subject : Nat} {f_spans : Nat} {f_threads : Nat} {f_marks : Nat} {f_oneMind : Nat} {f_states : Nat} {f_latest : Nat} {f_matches : Nat} {f_pieces : Nat} {f_template : Nat} {f_result : Nat} {f_spare : Nat} {cmp : Int} {ovs : Int} {PG : Nat → Option Nat} {NR : Nat → Nat} {cv : Int → Int} {on : Nat} {sl : Int} {x : Int} {y : Int} {k_ : Nat} (hw_ : cc o G w_ 18 (ab_ob 0 [vR f_ready, vR f_tape, vR f_reader, vR f_programs, vR f_subject, vR f_spans, vR f_threads, vR f_marks, vR f_oneMind, vR f_states, vR f_latest, vR f_matches, vR f_pieces, vR f_template, vR f_result, vR f_spare, vz cmp, vz ovs])) (hf_programs : cc o G f_programs 81 (ab_rr 6 PG)) (ppgI_0 : pgI o G 0 PG NR cv cmp on) (hkq : kq6 sl k_) (cr : -2147483648 ≤ sl ∧ sl ≤ 2147483647 ∧ -2147483648 ≤ x ∧ x ≤ 2147483647 ∧ -2147483648 ≤ y ∧ y ≤ 2147483647) (hd : 1 ≤ d) : ab_F X d y_PW_name (.code y_PW_name b_PW_name 5 (some (.int))) [vR w_, vz sl, vz x, vz y] G (fun oc G2 => ∃ v : Int, oc = .returned (some (vz v)) ∧ G2 = G ∧ (nmC PG cv sl x y v)) := by
  refine ab_F_of (by decide +kernel) (Nat.le_of_ble_eq_true rfl) ?_
  obtain ⟨Q, hQ⟩ : ∃ z : Outcome → ab_G → Prop, z = (fun oc G2 => ∃ v : Int, oc = .returned (some (vz v)) ∧ G2 = G ∧ (nmC PG cv sl x y v)) := ⟨_, rfl⟩
  rw [← hQ]
  change ab_W X (ab_pl y_PW_name b_PW_name 5 (some (.int))) d G 0 [some (vR w_), some (vz sl), some (vz x), some (vz y), none] [] Q
  have hfr : fx o o [] G G := fx.rf
  have hlen : G.length = G.length := rfl
  have hsl : ab_slots G = ab_slots G := rfl
  refine ab_aload_n d_PW_name_0 rfl ?_
  refine ab_iload_n d_PW_name_1 rfl ?_
  refine ab_callV (d' := d - 1) (as := [vz sl]) (st := []) (r := _) (z_PW_programAt (o := o) (w_ := w_) (f_ready := f_ready) (f_tape := f_tape) (f_reader := f_reader) (f_programs := f_programs) (f_subject := f_subject) (f_spans := f_spans) (f_threads := f_threads) (f_marks := f_marks) (f_oneMind := f_oneMind) (f_states := f_states) (f_latest := f_latest) (f_matches := f_matches) (f_pieces := f_pieces) (f_template := f_template) (f_result := f_result) (f_spare := f_spare) (cmp := cmp) (ovs := ovs) (PG := PG) (k := sl) hw_ hf_programs (by omega)) (fun oc G2 h => by rcases h with ⟨h, _⟩ | ⟨_, h, _⟩ <;> exact ⟨_, h⟩) (by omega) m_PW_programAt ml_PW_148 im_PW_programAt se_PW_programAt c_PW hw_.2.2 (Nat.le_of_ble_eq_true rfl) d_PW_name_2 rfl ?_
  intro v G1 hq
  rcases hq with ⟨hv, hGe, hq2⟩ | ⟨b3, hv, hGe, hq4, hq5⟩
  · cases hv
    rw [hGe]
    change ab_W _ _ _ G 5 [some (vR w_), some (vz sl), some (vz x), some (vz y), none] [vN] _
    refine ab_astoreN d_PW_name_5 (Nat.le_of_ble_eq_true rfl) (Nat.le_of_ble_eq_true rfl) rfl ?_
    change ab_W _ _ _ G 7 [some (vR w_), some (vz sl), some (vz x), some (vz y), some (vN)] [] _
    refine ab_aloadN d_PW_name_7 rfl ?_
    refine ab_ifnonnullN d_PW_name_9 ?_
    refine zz_iconst d_PW_name_12 ?_
    refine ab_goto (tgt := 23) d_PW_name_13 (by decide) ?_
    refine zz_iret rfl d_PW_name_23 ?_
    rw [hQ]; exact ⟨_, rfl, rfl, (by exact Or.inl ⟨hq2, rfl⟩)⟩
  · cases hv
    rw [hGe]
    change ab_W _ _ _ G 5 [some (vR w_), some (vz sl), some (vz x), some (vz y), none] [vR b3] _
    refine ab_astore d_PW_name_5 (Nat.le_of_ble_eq_true rfl) (Nat.le_of_ble_eq_true rfl) rfl ?_
    change ab_W _ _ _ G 7 [some (vR w_), some (vz sl), some (vz x), some (vz y), some (vR b3)] [] _
    refine ab_aload d_PW_name_7 rfl ?_
    refine ab_ifnonnull (tgt := 16) d_PW_name_9 (by decide) ?_
    have hk_ := hkq.2 (by omega) (by omega)
    rw [← hk_] at hq4
    have hk6_ : k_ < 6 := by omega
    obtain ⟨⟨mi_, sz_, ppgB_b3⟩, ppgX_0⟩ := ppgI_0.opn hk6_ hq4
    obtain ⟨ki_g, ne_g, ot_g, cnt_g, fi_g, la_g, ra_g, ru_g, gr_g, wi_g, fl_g, ve_g, na_g, nl_g, K_g, N_g, O_g, RR_g, NA_g, NL_g, hb3, hki_g, hne_g, hot_g, hra_g, hna_g, hnl_g, cq_g, hpu_g, hp_g, hr_g, hch_g, cru_g, ck9_g, cfi_g, cgr_g, cfl_g, hpo_g, hmi_g, hvc_g, cve_g, jnl_g, hiv_g, hmn_g, jna_g, hla_g, hpv_g, cv1_g, hkk_g, hoc_g, csz_g⟩ := ppgB_b3
    refine ab_aload d_PW_name_16 rfl ?_
    refine ab_iload_n d_PW_name_18 rfl ?_
    refine ab_iload_n d_PW_name_19 rfl ?_
    refine ab_callV (d' := d - 1) (as := [vz x, vz y]) (st := []) (r := _) (z_PR_nameByte (o := o) (q := b3) (lq := (100 + 10 * k_)) (ki := ki_g) (ne := ne_g) (ot := ot_g) (cnt := cnt_g) (fi := fi_g) (la := la_g) (ra := ra_g) (ru := ru_g) (gr := gr_g) (wi := wi_g) (sz := sz_) (fl := fl_g) (ve := ve_g) (mi := mi_) (na := na_g) (nl := nl_g) (NA := NA_g) (NL := NL_g) (k := x) (i := y) hb3 hna_g hnl_g (by omega) (by omega) (fun k h0 h1 => jnl_g k h0 (by omega))) (fun oc G2 h => by rcases h with ⟨h, _⟩ | ⟨h, _⟩ <;> exact ⟨_, h⟩) (by omega) m_PR_nameByte ml_PW_156 im_PR_nameByte se_PR_nameByte c_PR hb3.2.2 (Nat.le_of_ble_eq_true rfl) d_PW_name_20 rfl ?_
    intro v G6 hq
    rcases hq with ⟨hv, hGe, hq7⟩ | ⟨hv, hGe, hq8⟩
    · cases hv
      rw [hGe]
      change ab_W _ _ _ G 23 [some (vR w_), some (vz sl), some (vz x), some (vz y), some (vR b3)] [vz (NA_g (x * 12 + y))] _
      refine zz_iret rfl d_PW_name_23 ?_
      rw [hQ]; exact ⟨_, rfl, rfl, (by have t1_ := jnl_g x (by omega) (by omega); refine Or.inr ⟨by omega, ?_, ?_⟩; (rw [← hk_]; exact ⟨_, hq4⟩); (rw [← hk_]; exact Or.inl ⟨(ivR_t hiv_g (by omega)).mp hq7, (hiv_g.2.2.2.2 _ (by omega) (by omega)).symm⟩))⟩
    · cases hv
      rw [hGe]
      change ab_W _ _ _ G 23 [some (vR w_), some (vz sl), some (vz x), some (vz y), some (vR b3)] [vz (-1)] _
      refine zz_iret rfl d_PW_name_23 ?_
      rw [hQ]; exact ⟨_, rfl, rfl, (by refine Or.inr ⟨by omega, ?_, ?_⟩; (rw [← hk_]; exact ⟨_, hq4⟩); (rw [← hk_]; exact Or.inr ⟨fun t_ => hq8 ((ivR_t hiv_g (by omega)).mpr t_), rfl⟩))⟩
set_option maxRecDepth 100000 in
set_option maxHeartbeats 4000000 in
theorem y_PW_quote_9 {X : ab_X} {d : Nat} {Q : Outcome → ab_G → Prop} {o0 : Nat → Nat} {G0 : ab_G} {w_ : Nat} {f_ready : Nat} {f_tape : Nat} {f_reader : Nat} {f_programs : Nat} {f_subject : Nat} {f_spans : Nat} {f_threads : Nat} {f_marks : Nat} {f_oneMind : Nat} {f_states : Nat} {f_latest : Nat} {f_matches : Nat} {f_pieces : Nat} {f_template : Nat} {f_result : Nat} {f_spare : Nat} {cmp : Int} {ovs : Int} {it_t : Nat} {sz_t : Int} {mr_t : Nat} {F_t : Int → Int} {lr_ : Nat} {ls_ : Nat} {mr0 : Nat} (n18 : ab_n0 = 18) (crs : 77 ≤ lr_ ∧ lr_ ≤ 79 ∧ lr_ + ls_ = 156) (crw_t : 0 ≤ sz_t ∧ sz_t ≤ ↑mr_t ∧ ↑mr_t ≤ (2000 : Int) ∧ 32 ≤ mr_t) (hbt : bytes F_t sz_t) (rc : G0.length + 6001 ≤ ab_n0 + room_1.cells) (rs : ab_slots G0 + 24000 ≤ room_1.slots + zT mr0 6000) (hd : 6 ≤ d) : ∀ (mz : Nat) {G : ab_G} {o : Nat → Nat} {it_r : Nat} {sz_r : Int} {mr_r : Nat} {F_r : Int → Int} {i_ : Int}, (cc o G w_ 18 (ab_ob 0 [vR f_ready, vR f_tape, vR f_reader, vR f_programs, vR f_subject, vR f_spans, vR f_threads, vR f_marks, vR f_oneMind, vR f_states, vR f_latest, vR f_matches, vR f_pieces, vR f_template, vR f_result, vR f_spare, vz cmp, vz ovs])) → (cc o G f_tape 22 (ab_ob 7 [vz 2000, vR it_t, vz sz_t])) → (cc o G it_t 23 (za mr_t F_t)) → (cc o G f_result lr_ (ab_ob 7 [vz 6000, vR it_r, vz sz_r])) → (cc o G it_r (lr_ + 1) (za mr_r F_r)) → (0 ≤ sz_r ∧ sz_r ≤ ↑mr_r ∧ ↑mr_r ≤ (6000 : Int) ∧ 32 ≤ mr_r) → (0 ≤ i_ ∧ i_ ≤ sz_t) → (sz_r = qlI F_t i_) → (qtI F_t i_ F_r sz_r) → (G.length + mr0 ≤ G0.length + mr_r) → (ab_slots G + zT mr0 6000 ≤ ab_slots G0 + zT mr_r 6000) → (fx o0 o [lr_, (lr_ + 1)] G0 G) → (Int.toNat (sz_t - i_) < mz) → (∀ (G2 : ab_G) (o2 : Nat → Nat) (it2 : Nat) (sz2 : Int) (mr2 : Nat) (F2 : Int → Int), (cc o2 G2 f_result lr_ (ab_ob 7 [vz 6000, vR it2, vz sz2])) → (cc o2 G2 it2 (lr_ + 1) (za mr2 F2)) → (sz2 = qlI F_t sz_t) → (qtI F_t sz_t F2 sz2) → (0 ≤ sz2 ∧ sz2 ≤ ↑mr2 ∧ ↑mr2 ≤ (6000 : Int) ∧ 32 ≤ mr2) → (G2.length + mr0 ≤ G0.length + mr2) → (ab_slots G2 + zT mr0 6000 ≤ ab_slots G0 + zT mr2 6000) → (fx o0 o2 [lr_, (lr_ + 1)] G0 G2) → ab_W X (ab_pl y_PW_quote b_PW_quote 3 (some (.int))) d G2 68 [some (vR w_), none, none] [] Q) → ab_W X (ab_pl y_PW_quote b_PW_quote 3 (some (.int))) d G 9 [some (vR w_), some (vz i_), none] [] Q := by
  intro mz
  induction mz with
  | zero => intro G o it_r sz_r mr_r F_r i_ hw_ hf_tape hit_t hf_result hit_r crw_r ci jql jqc hg hs hfr hm hk0; exact absurd hm (Nat.not_lt_zero _)
  | succ mz ih =>
    intro G o it_r sz_r mr_r F_r i_ hw_ hf_tape hit_t hf_result hit_r crw_r ci jql jqc hg hs hfr hm hk0
    have hql_ := qlI_b (f := F_t) (i := i_) (by omega)
    refine ab_iload_n d_PW_quote_9 rfl ?_
    refine ab_aload_n d_PW_quote_10 rfl ?_
    refine ab_getf (fs := [vR f_ready, vR f_tape, vR f_reader, vR f_programs, vR f_subject, vR f_spans, vR f_threads, vR f_marks, vR f_oneMind, vR f_states, vR f_latest, vR f_matches, vR f_pieces, vR f_template, vR f_result, vR f_spare, vz cmp, vz ovs]) f_PW_18 d_PW_quote_11 hw_.2.2 rfl ?_
    refine ab_getf (fs := [vz 2000, vR it_t, vz sz_t]) f_PW_101 d_PW_quote_14 hf_tape.2.2 rfl ?_
    refine zz_icmp_ge (tgt := 68) d_PW_quote_17 (by decide) (by omega) (by omega) (fun c1 => ?_) (fun c1 => ?_)
    · refine ab_less (L' := [some (vR w_), none, none]) (fun i v h => by rcases i with _ | _ | _ | i <;> first | exact h | (simp at h)) ?_
      exact hk0 _ _ _ _ _ _ hf_result hit_r (by have t_ := jql; rw [show i_ = sz_t by omega] at t_; exact t_) (by have t_ := jqc; rw [show i_ = sz_t by omega] at t_; exact t_) (by omega) (by omega) (by omega) hfr
    · have hz9 : zT mr_r 6000 ≤ 18000 := zT_le (c := 6000) (by omega) rfl
      refine ab_aload_n d_PW_quote_20 rfl ?_
      refine ab_getf (fs := [vR f_ready, vR f_tape, vR f_reader, vR f_programs, vR f_subject, vR f_spans, vR f_threads, vR f_marks, vR f_oneMind, vR f_states, vR f_latest, vR f_matches, vR f_pieces, vR f_template, vR f_result, vR f_spare, vz cmp, vz ovs]) f_PW_18 d_PW_quote_21 hw_.2.2 rfl ?_
      refine ab_iload_n d_PW_quote_24 rfl ?_
      refine ab_callV (d' := d - 1) (as := [vz i_]) (st := []) (r := _) (z_RW_at (o := o) (r := f_tape) (b := it_t) (lr := 22) (lb := 23) (n := mr_t) (lim := 2000) (sz := sz_t) (f := F_t) (i := i_) hf_tape hit_t (by omega) (by omega)) (fun oc G2 h => by rcases h with ⟨h, _⟩ | ⟨h, _⟩ <;> exact ⟨_, h⟩) (by omega) m_RW_at ml_PW_228 im_RW_at se_RW_at c_RW hf_tape.2.2 (Nat.le_of_ble_eq_true rfl) d_PW_quote_25 rfl ?_
      intro v G2 hq
      rcases hq with ⟨hv, hGe, hq3⟩ | ⟨hv, hGe, hq4⟩
      · cases hv
        rw [hGe]
        change ab_W _ _ _ G 28 [some (vR w_), some (vz i_), none] [vz (F_t i_)] _
        have hby_ := hbt i_ (by omega) (by omega)
        refine ab_istore_n d_PW_quote_28 (Nat.le_of_ble_eq_true rfl) (Nat.le_of_ble_eq_true rfl) rfl ?_
        change ab_W _ _ _ G 29 [some (vR w_), some (vz i_), some (vz (F_t i_))] [] _
        refine ab_iload_n d_PW_quote_29 rfl ?_
        refine zz_sipush d_PW_quote_30 (by decide) ?_
        refine zz_icmp_ge (tgt := 53) d_PW_quote_33 (by decide) (by omega) (by decide) (fun c5 => ?_) (fun c5 => ?_)
        · have hz6 : zT mr_r 6000 ≤ 18000 := zT_le (c := 6000) (by omega) rfl
          refine ab_aload_n d_PW_quote_53 rfl ?_
          refine ab_getf (fs := [vR f_ready, vR f_tape, vR f_reader, vR f_programs, vR f_subject, vR f_spans, vR f_threads, vR f_marks, vR f_oneMind, vR f_states, vR f_latest, vR f_matches, vR f_pieces, vR f_template, vR f_result, vR f_spare, vz cmp, vz ovs]) f_PW_85 d_PW_quote_54 hw_.2.2 rfl ?_
          refine ab_iload_n d_PW_quote_57 rfl ?_
          refine ab_callV (d' := d - 1) (as := [vz (F_t i_)]) (st := []) (r := _) (z_RW_add (o := o) (r := f_result) (b := it_r) (lr := lr_) (lb := (lr_ + 1)) (n := mr_r) (lim := 6000) (sz := sz_r) (f := F_r) (x := (F_t i_)) hf_result hit_r (by omega) (by have h18 : ab_n0 = 18 := rfl; omega) (by omega) (by omega) (by omega)) (fun oc G2 h => by rcases h with ⟨h, _⟩ | ⟨_, _, _, _, h, _⟩ <;> exact ⟨_, h⟩) (by omega) m_RW_add ml_PW_197 im_RW_add se_RW_add c_RW hf_result.2.2 (Nat.le_of_ble_eq_true rfl) d_PW_quote_58 rfl ?_
          intro v G7 hq
          rcases hq with ⟨hv, hGe, hq8⟩ | ⟨o9, b210, n211, f212, hv, hfk, hNf_result, hNb210, hq13, hq14, hq15, hq16, hq17, hq18⟩
          · cases hv
            rw [hGe]
            change ab_W _ _ _ G 61 [some (vR w_), some (vz i_), some (vz (F_t i_))] [vz 0] _
            exfalso; omega
          · cases hv
            have hw_ := hfk.get hw_ (by simp only [List.mem_cons, List.not_mem_nil, or_false]; omega)
            have hf_tape := hfk.get hf_tape (by simp only [List.mem_cons, List.not_mem_nil, or_false]; omega)
            have hit_t := hfk.get hit_t (by simp only [List.mem_cons, List.not_mem_nil, or_false]; omega)
            have hfr := hfr.tr hfk (by simp)
            have hq19 := hfk.1
            have hf_result := hNf_result
            have hb210 := hNb210
            change ab_W _ _ _ G7 61 [some (vR w_), some (vz i_), some (vz (F_t i_))] [vz 1] _
            refine ab_pop d_PW_quote_61 rfl ?_
            refine zz_iinc d_PW_quote_62 rfl (Nat.le_of_ble_eq_true rfl) (Nat.le_of_ble_eq_true rfl) rfl ?_
            change ab_W _ _ _ G7 65 [some (vR w_), some (vz (i_ + 1)), some (vz (F_t i_))] [] _
            refine ab_goto (tgt := 9) d_PW_quote_65 (by decide) ?_
            refine ab_less (L' := [some (vR w_), some (vz (i_ + 1)), none]) (fun i v h => by rcases i with _ | _ | _ | i <;> first | exact h | (simp at h)) ?_
            exact ih (it_r := b210) (sz_r := (sz_r + 1)) (mr_r := n211) (F_r := f212) (i_ := (i_ + 1)) hw_ hf_tape hit_t hf_result hb210 (by omega) (by omega) (qlI_1 (by omega) jql rfl (Or.inl (by omega))) (qtC_1 jqc (Or.inl (by omega)) hq17 hq18 rfl) (by omega) (by omega) hfr (by omega) hk0
        · refine ab_iload_n d_PW_quote_36 rfl ?_
          refine ab_callS (d' := d - 1) (as := [vz (F_t i_)]) (st := []) (z_PW_isWord (o := o) (x := (F_t i_)) (by omega)) (fun oc G2 h => by rcases h with ⟨h, _⟩ | ⟨h, _⟩ <;> exact ⟨_, h⟩) (by omega) m_PW_isWord ml_PW_232 st_PW_isWord (Nat.le_of_ble_eq_true rfl) d_PW_quote_37 rfl ?_
          intro v G20 hq
          rcases hq with ⟨hv, hGe, hq21⟩ | ⟨hv, hGe, hq22⟩
          · cases hv
            rw [hGe]
            change ab_W _ _ _ G 40 [some (vR w_), some (vz i_), some (vz (F_t i_))] [vz 1] _
            refine zz_if_ne (tgt := 53) d_PW_quote_40 (by decide) (by decide) (fun c23 => ?_) (fun c23 => absurd c23 (by decide))
            have hz24 : zT mr_r 6000 ≤ 18000 := zT_le (c := 6000) (by omega) rfl
            refine ab_aload_n d_PW_quote_53 rfl ?_
            refine ab_getf (fs := [vR f_ready, vR f_tape, vR f_reader, vR f_programs, vR f_subject, vR f_spans, vR f_threads, vR f_marks, vR f_oneMind, vR f_states, vR f_latest, vR f_matches, vR f_pieces, vR f_template, vR f_result, vR f_spare, vz cmp, vz ovs]) f_PW_85 d_PW_quote_54 hw_.2.2 rfl ?_
            refine ab_iload_n d_PW_quote_57 rfl ?_
            refine ab_callV (d' := d - 1) (as := [vz (F_t i_)]) (st := []) (r := _) (z_RW_add (o := o) (r := f_result) (b := it_r) (lr := lr_) (lb := (lr_ + 1)) (n := mr_r) (lim := 6000) (sz := sz_r) (f := F_r) (x := (F_t i_)) hf_result hit_r (by omega) (by have h18 : ab_n0 = 18 := rfl; omega) (by omega) (by omega) (by omega)) (fun oc G2 h => by rcases h with ⟨h, _⟩ | ⟨_, _, _, _, h, _⟩ <;> exact ⟨_, h⟩) (by omega) m_RW_add ml_PW_197 im_RW_add se_RW_add c_RW hf_result.2.2 (Nat.le_of_ble_eq_true rfl) d_PW_quote_58 rfl ?_
            intro v G25 hq
            rcases hq with ⟨hv, hGe, hq26⟩ | ⟨o27, b228, n229, f230, hv, hfk, hNf_result, hNb228, hq31, hq32, hq33, hq34, hq35, hq36⟩
            · cases hv
              rw [hGe]
              change ab_W _ _ _ G 61 [some (vR w_), some (vz i_), some (vz (F_t i_))] [vz 0] _
              exfalso; omega
            · cases hv
              have hw_ := hfk.get hw_ (by simp only [List.mem_cons, List.not_mem_nil, or_false]; omega)
              have hf_tape := hfk.get hf_tape (by simp only [List.mem_cons, List.not_mem_nil, or_false]; omega)
              have hit_t := hfk.get hit_t (by simp only [List.mem_cons, List.not_mem_nil, or_false]; omega)
              have hfr := hfr.tr hfk (by simp)
              have hq37 := hfk.1
              have hf_result := hNf_result
              have hb228 := hNb228
              change ab_W _ _ _ G25 61 [some (vR w_), some (vz i_), some (vz (F_t i_))] [vz 1] _
              refine ab_pop d_PW_quote_61 rfl ?_
              refine zz_iinc d_PW_quote_62 rfl (Nat.le_of_ble_eq_true rfl) (Nat.le_of_ble_eq_true rfl) rfl ?_
              change ab_W _ _ _ G25 65 [some (vR w_), some (vz (i_ + 1)), some (vz (F_t i_))] [] _
              refine ab_goto (tgt := 9) d_PW_quote_65 (by decide) ?_
              refine ab_less (L' := [some (vR w_), some (vz (i_ + 1)), none]) (fun i v h => by rcases i with _ | _ | _ | i <;> first | exact h | (simp at h)) ?_
              exact ih (it_r := b228) (sz_r := (sz_r + 1)) (mr_r := n229) (F_r := f230) (i_ := (i_ + 1)) hw_ hf_tape hit_t hf_result hb228 (by omega) (by omega) (qlI_1 (by omega) jql rfl (Or.inr hq21)) (qtC_1 jqc (Or.inr hq21) hq35 hq36 rfl) (by omega) (by omega) hfr (by omega) hk0
          · cases hv
            rw [hGe]
            change ab_W _ _ _ G 40 [some (vR w_), some (vz i_), some (vz (F_t i_))] [vz 0] _
            refine zz_if_ne (tgt := 53) d_PW_quote_40 (by decide) (by decide) (fun c38 => absurd c38 (by decide)) (fun c38 => ?_)
            refine ab_aload_n d_PW_quote_43 rfl ?_
            refine ab_getf (fs := [vR f_ready, vR f_tape, vR f_reader, vR f_programs, vR f_subject, vR f_spans, vR f_threads, vR f_marks, vR f_oneMind, vR f_states, vR f_latest, vR f_matches, vR f_pieces, vR f_template, vR f_result, vR f_spare, vz cmp, vz ovs]) f_PW_85 d_PW_quote_44 hw_.2.2 rfl ?_
            refine zz_bipush d_PW_quote_47 (by decide) ?_
            refine ab_callV (d' := d - 1) (as := [vz 92]) (st := []) (r := _) (z_RW_add (o := o) (r := f_result) (b := it_r) (lr := lr_) (lb := (lr_ + 1)) (n := mr_r) (lim := 6000) (sz := sz_r) (f := F_r) (x := 92) hf_result hit_r (by omega) (by have h18 : ab_n0 = 18 := rfl; omega) (by omega) (by omega) (by omega)) (fun oc G2 h => by rcases h with ⟨h, _⟩ | ⟨_, _, _, _, h, _⟩ <;> exact ⟨_, h⟩) (by omega) m_RW_add ml_PW_197 im_RW_add se_RW_add c_RW hf_result.2.2 (Nat.le_of_ble_eq_true rfl) d_PW_quote_49 rfl ?_
            intro v G39 hq
            rcases hq with ⟨hv, hGe, hq40⟩ | ⟨o41, b242, n243, f244, hv, hfk, hNf_result, hNb242, hq45, hq46, hq47, hq48, hq49, hq50⟩
            · cases hv
              rw [hGe]
              change ab_W _ _ _ G 52 [some (vR w_), some (vz i_), some (vz (F_t i_))] [vz 0] _
              exfalso; omega
            · cases hv
              have hw_ := hfk.get hw_ (by simp only [List.mem_cons, List.not_mem_nil, or_false]; omega)
              have hf_tape := hfk.get hf_tape (by simp only [List.mem_cons, List.not_mem_nil, or_false]; omega)
              have hit_t := hfk.get hit_t (by simp only [List.mem_cons, List.not_mem_nil, or_false]; omega)
              have hfr := hfr.tr hfk (by simp)
              have hq51 := hfk.1
              have hf_result := hNf_result
              have hb242 := hNb242
              change ab_W _ _ _ G39 52 [some (vR w_), some (vz i_), some (vz (F_t i_))] [vz 1] _
              refine ab_pop d_PW_quote_52 rfl ?_
              have hz52 : zT n243 6000 ≤ 18000 := zT_le (c := 6000) (by omega) rfl
              refine ab_aload_n d_PW_quote_53 rfl ?_
              refine ab_getf (fs := [vR f_ready, vR f_tape, vR f_reader, vR f_programs, vR f_subject, vR f_spans, vR f_threads, vR f_marks, vR f_oneMind, vR f_states, vR f_latest, vR f_matches, vR f_pieces, vR f_template, vR f_result, vR f_spare, vz cmp, vz ovs]) f_PW_85 d_PW_quote_54 hw_.2.2 rfl ?_
              refine ab_iload_n d_PW_quote_57 rfl ?_
              refine ab_callV (d' := d - 1) (as := [vz (F_t i_)]) (st := []) (r := _) (z_RW_add (o := o41) (r := f_result) (b := b242) (lr := lr_) (lb := (lr_ + 1)) (n := n243) (lim := 6000) (sz := (sz_r + 1)) (f := f244) (x := (F_t i_)) hf_result hb242 (by omega) (by have h18 : ab_n0 = 18 := rfl; omega) (by omega) (by omega) (by omega)) (fun oc G2 h => by rcases h with ⟨h, _⟩ | ⟨_, _, _, _, h, _⟩ <;> exact ⟨_, h⟩) (by omega) m_RW_add ml_PW_197 im_RW_add se_RW_add c_RW hf_result.2.2 (Nat.le_of_ble_eq_true rfl) d_PW_quote_58 rfl ?_
              intro v G53 hq
              rcases hq with ⟨hv, hGe, hq54⟩ | ⟨o55, b256, n257, f258, hv, hfk, hNf_result, hNb256, hq59, hq60, hq61, hq62, hq63, hq64⟩
              · cases hv
                rw [hGe]
                change ab_W _ _ _ G39 61 [some (vR w_), some (vz i_), some (vz (F_t i_))] [vz 0] _
                exfalso; omega
              · cases hv
                have hw_ := hfk.get hw_ (by simp only [List.mem_cons, List.not_mem_nil, or_false]; omega)
                have hf_tape := hfk.get hf_tape (by simp only [List.mem_cons, List.not_mem_nil, or_false]; omega)
                have hit_t := hfk.get hit_t (by simp only [List.mem_cons, List.not_mem_nil, or_false]; omega)
                have hfr := hfr.tr hfk (by simp)
                have hq65 := hfk.1
                have hf_result := hNf_result
                have hb256 := hNb256
                change ab_W _ _ _ G53 61 [some (vR w_), some (vz i_), some (vz (F_t i_))] [vz 1] _
                refine ab_pop d_PW_quote_61 rfl ?_
                refine zz_iinc d_PW_quote_62 rfl (Nat.le_of_ble_eq_true rfl) (Nat.le_of_ble_eq_true rfl) rfl ?_
                change ab_W _ _ _ G53 65 [some (vR w_), some (vz (i_ + 1)), some (vz (F_t i_))] [] _
                refine ab_goto (tgt := 9) d_PW_quote_65 (by decide) ?_
                refine ab_less (L' := [some (vR w_), some (vz (i_ + 1)), none]) (fun i v h => by rcases i with _ | _ | _ | i <;> first | exact h | (simp at h)) ?_
                exact ih (it_r := b256) (sz_r := ((sz_r + 1) + 1)) (mr_r := n257) (F_r := f258) (i_ := (i_ + 1)) hw_ hf_tape hit_t hf_result hb256 (by omega) (by omega) (qlI_2 (by omega) jql rfl (by omega) hq22) (qtC_2 jqc (by omega) hq22 hq49 hq50 hq63 hq64 rfl) (by omega) (by omega) hfr (by omega) hk0
      · cases hv
        rw [hGe]
        change ab_W _ _ _ G 28 [some (vR w_), some (vz i_), none] [vz (-1)] _
        exfalso; omega
set_option maxRecDepth 100000 in
set_option maxHeartbeats 4000000 in
theorem z_PW_quote {X : ab_X} {d : Nat} {o : Nat → Nat} {G : ab_G} {w_ : Nat} {f_ready : Nat} {f_tape : Nat} {f_reader : Nat} {f_programs : Nat} {f_subject : Nat} {f_spans : Nat} {f_threads : Nat} {f_marks : Nat} {f_oneMind : Nat} {f_states : Nat} {f_latest : Nat} {f_matches : Nat} {f_pieces : Nat} {f_template : Nat} {f_result : Nat} {f_spare : Nat} {cmp : Int} {ovs : Int} {it_t : Nat} {sz_t : Int} {mr_t : Nat} {F_t : Int → Int} {it_r : Nat} {sz_r : Int} {mr_r : Nat} {F_r : Int → Int} {lr_ : Nat} {ls_ : Nat} (hw_ : cc o G w_ 18 (ab_ob 0 [vR f_ready, vR f_tape, vR f_reader, vR f_programs, vR f_subject, vR f_spans, vR f_threads, vR f_marks, vR f_oneMind, vR f_states, vR f_latest, vR f_matches, vR f_pieces, vR f_template, vR f_result, vR f_spare, vz cmp, vz ovs])) (hf_tape : cc o G f_tape 22 (ab_ob 7 [vz 2000, vR it_t, vz sz_t])) (hit_t : cc o G it_t 23 (za mr_t F_t)) (hf_result : cc o G f_result lr_ (ab_ob 7 [vz 6000, vR it_r, vz sz_r])) (hit_r : cc o G it_r (lr_ + 1) (za mr_r F_r)) (n18 : ab_n0 = 18) (crs : 77 ≤ lr_ ∧ lr_ ≤ 79 ∧ lr_ + ls_ = 156) (crw_t : 0 ≤ sz_t ∧ sz_t ≤ ↑mr_t ∧ ↑mr_t ≤ (2000 : Int) ∧ 32 ≤ mr_t) (hbt : bytes F_t sz_t) (crw_r : 0 ≤ sz_r ∧ sz_r ≤ ↑mr_r ∧ ↑mr_r ≤ (6000 : Int) ∧ 32 ≤ mr_r) (rc : G.length + 6001 ≤ ab_n0 + room_1.cells) (rs : ab_slots G + 24000 ≤ room_1.slots + zT mr_r 6000) (hd : 7 ≤ d) : ab_F X d y_PW_quote (.code y_PW_quote b_PW_quote 3 (some (.int))) [vR w_] G (fun oc G2 => ∃ o2 : Nat → Nat, ∃ it2 : Nat, ∃ sz2 : Int, ∃ mr2 : Nat, ∃ F2 : Int → Int, oc = .returned (some (vz sz2)) ∧ fx o o2 [22, lr_, (lr_ + 1)] G G2 ∧ cc o2 G2 f_result lr_ (ab_ob 7 [vz 6000, vR it2, vz sz2]) ∧ cc o2 G2 it2 (lr_ + 1) (za mr2 F2) ∧ cc o2 G2 f_tape 22 (ab_ob 7 [vz 2000, vR it_t, vz 0]) ∧ (sz2 = qlI F_t sz_t) ∧ (qtI F_t sz_t F2 sz2) ∧ (0 ≤ sz2 ∧ sz2 ≤ ↑mr2 ∧ ↑mr2 ≤ (6000 : Int) ∧ 32 ≤ mr2) ∧ (G2.length + mr_r ≤ G.length + mr2) ∧ (ab_slots G2 + zT mr_r 6000 ≤ ab_slots G + zT mr2 6000)) := by
  refine ab_F_of (by decide +kernel) (Nat.le_of_ble_eq_true rfl) ?_
  obtain ⟨Q, hQ⟩ : ∃ z : Outcome → ab_G → Prop, z = (fun oc G2 => ∃ o2 : Nat → Nat, ∃ it2 : Nat, ∃ sz2 : Int, ∃ mr2 : Nat, ∃ F2 : Int → Int, oc = .returned (some (vz sz2)) ∧ fx o o2 [22, lr_, (lr_ + 1)] G G2 ∧ cc o2 G2 f_result lr_ (ab_ob 7 [vz 6000, vR it2, vz sz2]) ∧ cc o2 G2 it2 (lr_ + 1) (za mr2 F2) ∧ cc o2 G2 f_tape 22 (ab_ob 7 [vz 2000, vR it_t, vz 0]) ∧ (sz2 = qlI F_t sz_t) ∧ (qtI F_t sz_t F2 sz2) ∧ (0 ≤ sz2 ∧ sz2 ≤ ↑mr2 ∧ ↑mr2 ≤ (6000 : Int) ∧ 32 ≤ mr2) ∧ (G2.length + mr_r ≤ G.length + mr2) ∧ (ab_slots G2 + zT mr_r 6000 ≤ ab_slots G + zT mr2 6000)) := ⟨_, rfl⟩
  rw [← hQ]
  change ab_W X (ab_pl y_PW_quote b_PW_quote 3 (some (.int))) d G 0 [some (vR w_), none, none] [] Q
  have hfr : fx o o [22, lr_, (lr_ + 1)] G G := fx.rf
  refine ab_aload_n d_PW_quote_0 rfl ?_
  refine ab_getf (fs := [vR f_ready, vR f_tape, vR f_reader, vR f_programs, vR f_subject, vR f_spans, vR f_threads, vR f_marks, vR f_oneMind, vR f_states, vR f_latest, vR f_matches, vR f_pieces, vR f_template, vR f_result, vR f_spare, vz cmp, vz ovs]) f_PW_85 d_PW_quote_1 hw_.2.2 rfl ?_
  refine ab_callV (d' := d - 1) (as := []) (st := []) (r := _) (z_RW_clear (o := o) (r := f_result) (b := it_r) (lr := lr_) (lim := 6000) (sz := sz_r) hf_result (by have h18 : ab_n0 = 18 := rfl; omega)) (fun oc G2 h => by rcases h with ⟨h, _⟩ <;> exact ⟨_, h⟩) (by omega) m_RW_clear ml_PW_120 im_RW_clear se_RW_clear c_RW hf_result.2.2 (Nat.le_of_ble_eq_true rfl) d_PW_quote_4 rfl ?_
  intro v G1 hq
  rcases hq with ⟨hv, hfk, hlk, hsk, hNf_result⟩
  cases hv
  have hw_ := hfk.get hw_ (by simp only [List.mem_cons, List.not_mem_nil, or_false]; omega)
  have hf_tape := hfk.get hf_tape (by simp only [List.mem_cons, List.not_mem_nil, or_false]; omega)
  have hit_t := hfk.get hit_t (by simp only [List.mem_cons, List.not_mem_nil, or_false]; omega)
  have hit_r := hfk.get hit_r (by simp only [List.mem_cons, List.not_mem_nil, or_false]; omega)
  have hfr := hfr.tr hfk (by simp)
  have hq2 := hlk
  have hq3 := hsk
  have hf_result := hNf_result
  change ab_W _ _ _ G1 7 [some (vR w_), none, none] [] _
  refine zz_iconst d_PW_quote_7 ?_
  refine ab_istore_n d_PW_quote_8 (Nat.le_of_ble_eq_true rfl) (Nat.le_of_ble_eq_true rfl) rfl ?_
  change ab_W _ _ _ G1 9 [some (vR w_), some (vz 0), none] [] _
  refine y_PW_quote_9 (w_ := w_) (f_ready := f_ready) (f_tape := f_tape) (f_reader := f_reader) (f_programs := f_programs) (f_subject := f_subject) (f_spans := f_spans) (f_threads := f_threads) (f_marks := f_marks) (f_oneMind := f_oneMind) (f_states := f_states) (f_latest := f_latest) (f_matches := f_matches) (f_pieces := f_pieces) (f_template := f_template) (f_result := f_result) (f_spare := f_spare) (cmp := cmp) (ovs := ovs) (it_t := it_t) (sz_t := sz_t) (mr_t := mr_t) (F_t := F_t) (lr_ := lr_) (mr0 := mr_r) (G0 := G1) (it_r := it_r) (sz_r := 0) (mr_r := mr_r) (F_r := F_r) (i_ := 0) (by omega) (by omega) (by omega) hbt (by omega) (by omega) (by omega) (Int.toNat (sz_t - 0) + 1) hw_ hf_tape hit_t hf_result hit_r (by omega) (by omega) qlI_0.symm (qtI_0 rfl) (by omega) (by omega) fx.rf (by omega) (fun G4 o5 it26 sz27 mr28 F29 hNf_result hNit26 hq10 hq11 hq12 hq13 hq14 hfk => ?_)
  · have hw_ := hfk.get hw_ (by simp only [List.mem_cons, List.not_mem_nil, or_false]; omega)
    have hf_tape := hfk.get hf_tape (by simp only [List.mem_cons, List.not_mem_nil, or_false]; omega)
    have hit_t := hfk.get hit_t (by simp only [List.mem_cons, List.not_mem_nil, or_false]; omega)
    have hfr := hfr.tr hfk (by simp)
    have hq15 := hfk.1
    have hf_result := hNf_result
    have hit26 := hNit26
    change ab_W _ _ _ G4 68 [some (vR w_), none, none] [] _
    refine ab_aload_n d_PW_quote_68 rfl ?_
    refine ab_getf (fs := [vR f_ready, vR f_tape, vR f_reader, vR f_programs, vR f_subject, vR f_spans, vR f_threads, vR f_marks, vR f_oneMind, vR f_states, vR f_latest, vR f_matches, vR f_pieces, vR f_template, vR f_result, vR f_spare, vz cmp, vz ovs]) f_PW_18 d_PW_quote_69 hw_.2.2 rfl ?_
    refine ab_callV (d' := d - 1) (as := []) (st := []) (r := _) (z_RW_clear (o := o5) (r := f_tape) (b := it_t) (lr := 22) (lim := 2000) (sz := sz_t) hf_tape (by have h18 : ab_n0 = 18 := rfl; omega)) (fun oc G2 h => by rcases h with ⟨h, _⟩ <;> exact ⟨_, h⟩) (by omega) m_RW_clear ml_PW_120 im_RW_clear se_RW_clear c_RW hf_tape.2.2 (Nat.le_of_ble_eq_true rfl) d_PW_quote_72 rfl ?_
    intro v G16 hq
    rcases hq with ⟨hv, hfk, hlk, hsk, hNf_tape⟩
    cases hv
    have hw_ := hfk.get hw_ (by decide)
    have hit_t := hfk.get hit_t (by decide)
    have hf_result := hfk.get hf_result (by simp only [List.mem_cons, List.not_mem_nil, or_false]; omega)
    have hit26 := hfk.get hit26 (by simp only [List.mem_cons, List.not_mem_nil, or_false]; omega)
    have hfr := hfr.tr hfk (by simp)
    have hq17 := hlk
    have hq18 := hsk
    have hf_tape := hNf_tape
    change ab_W _ _ _ G16 75 [some (vR w_), none, none] [] _
    refine ab_aload_n d_PW_quote_75 rfl ?_
    refine ab_getf (fs := [vR f_ready, vR f_tape, vR f_reader, vR f_programs, vR f_subject, vR f_spans, vR f_threads, vR f_marks, vR f_oneMind, vR f_states, vR f_latest, vR f_matches, vR f_pieces, vR f_template, vR f_result, vR f_spare, vz cmp, vz ovs]) f_PW_85 d_PW_quote_76 hw_.2.2 rfl ?_
    refine ab_getf (fs := [vz 6000, vR it26, vz sz27]) f_PW_101 d_PW_quote_79 hf_result.2.2 rfl ?_
    refine zz_iret rfl d_PW_quote_82 ?_
    rw [hQ]; exact ⟨_, _, _, _, _, rfl, hfr, hf_result, hit26, hf_tape, (by exact hq10), (by exact hq11), (by omega), (by omega), (by omega)⟩
set_option maxRecDepth 100000 in
set_option maxHeartbeats 4000000 in
theorem z2_PW_output {X : ab_X} {d : Nat} {o : Nat → Nat} {G : ab_G} {w_ : Nat} {f_ready : Nat} {f_tape : Nat} {f_reader : Nat} {f_programs : Nat} {f_subject : Nat} {f_spans : Nat} {f_threads : Nat} {f_marks : Nat} {f_oneMind : Nat} {f_states : Nat} {f_latest : Nat} {f_matches : Nat} {f_pieces : Nat} {f_template : Nat} {f_result : Nat} {f_spare : Nat} {cmp : Int} {ovs : Int} {it_a : Nat} {sz_a : Int} {mr_a : Nat} {F_a : Int → Int} {k : Int} {lr_ : Nat} (hw_ : cc o G w_ 18 (ab_ob 0 [vR f_ready, vR f_tape, vR f_reader, vR f_programs, vR f_subject, vR f_spans, vR f_threads, vR f_marks, vR f_oneMind, vR f_states, vR f_latest, vR f_matches, vR f_pieces, vR f_template, vR f_result, vR f_spare, vz cmp, vz ovs])) (hf_result : cc o G f_result lr_ (ab_ob 7 [vz 6000, vR it_a, vz sz_a])) (hit_a : cc o G it_a (lr_ + 1) (za mr_a F_a)) (crw_a : 0 ≤ sz_a ∧ sz_a ≤ ↑mr_a ∧ ↑mr_a ≤ (6000 : Int) ∧ 32 ≤ mr_a) (cr : -2147483648 ≤ k ∧ k ≤ 2147483647) (hd : 1 ≤ d) : ab_F X d y_PW_output (.code y_PW_output b_PW_output 2 (some (.int))) [vR w_, vz k] G (fun oc G2 => ∃ v : Int, oc = .returned (some (vz v)) ∧ G2 = G ∧ (ouR F_a sz_a k v)) := by
  refine ab_F_of (by decide +kernel) (Nat.le_of_ble_eq_true rfl) ?_
  obtain ⟨Q, hQ⟩ : ∃ z : Outcome → ab_G → Prop, z = (fun oc G2 => ∃ v : Int, oc = .returned (some (vz v)) ∧ G2 = G ∧ (ouR F_a sz_a k v)) := ⟨_, rfl⟩
  rw [← hQ]
  change ab_W X (ab_pl y_PW_output b_PW_output 2 (some (.int))) d G 0 [some (vR w_), some (vz k)] [] Q
  have hfr : fx o o [] G G := fx.rf
  have hlen : G.length = G.length := rfl
  have hsl : ab_slots G = ab_slots G := rfl
  refine ab_aload_n d_PW_output_0 rfl ?_
  refine ab_getf (fs := [vR f_ready, vR f_tape, vR f_reader, vR f_programs, vR f_subject, vR f_spans, vR f_threads, vR f_marks, vR f_oneMind, vR f_states, vR f_latest, vR f_matches, vR f_pieces, vR f_template, vR f_result, vR f_spare, vz cmp, vz ovs]) f_PW_85 d_PW_output_1 hw_.2.2 rfl ?_
  refine ab_iload_n d_PW_output_4 rfl ?_
  refine ab_callV (d' := d - 1) (as := [vz k]) (st := []) (r := _) (z_RW_at (o := o) (r := f_result) (b := it_a) (lr := lr_) (lb := (lr_ + 1)) (n := mr_a) (lim := 6000) (sz := sz_a) (f := F_a) (i := k) hf_result hit_a (by omega) (by omega)) (fun oc G2 h => by rcases h with ⟨h, _⟩ | ⟨h, _⟩ <;> exact ⟨_, h⟩) (by omega) m_RW_at ml_PW_228 im_RW_at se_RW_at c_RW hf_result.2.2 (Nat.le_of_ble_eq_true rfl) d_PW_output_5 rfl ?_
  intro v G1 hq
  rcases hq with ⟨hv, hGe, hq2⟩ | ⟨hv, hGe, hq3⟩
  · cases hv
    rw [hGe]
    change ab_W _ _ _ G 8 [some (vR w_), some (vz k)] [vz (F_a k)] _
    refine zz_iret rfl d_PW_output_8 ?_
    rw [hQ]; exact ⟨_, rfl, rfl, (by first | exact Or.inl ⟨by omega, by omega, rfl⟩ | exact Or.inr ⟨by omega, rfl⟩)⟩
  · cases hv
    rw [hGe]
    change ab_W _ _ _ G 8 [some (vR w_), some (vz k)] [vz (-1)] _
    refine zz_iret rfl d_PW_output_8 ?_
    rw [hQ]; exact ⟨_, rfl, rfl, (by first | exact Or.inl ⟨by omega, by omega, rfl⟩ | exact Or.inr ⟨by omega, rfl⟩)⟩
