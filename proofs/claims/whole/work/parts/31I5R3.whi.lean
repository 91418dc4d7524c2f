set_option maxRecDepth 100000 in
set_option maxHeartbeats 4000000 in
theorem y_PW_which_11 {X : ab_X} {d : Nat} {Q : Outcome → ab_G → Prop} {o0 : Nat → Nat} {G0 : ab_G} {w_ : Nat} {f_ready : Nat} {f_tape : Nat} {f_reader : Nat} {f_programs : Nat} {f_subject : Nat} {f_spans : Nat} {f_threads : Nat} {f_marks : Nat} {f_oneMind : Nat} {f_states : Nat} {f_latest : Nat} {f_matches : Nat} {f_pieces : Nat} {f_template : Nat} {f_result : Nat} {f_spare : Nat} {cmp : Int} {ovs : Int} {PG : Nat → Option Nat} {NR : Nat → Nat} {cv : Int → Int} {n : Int} {m : Nat} {f : Int → Int} {s90 : Int} {x : Int} {wh : Int} {nm0 : Nat} {ns0 : Nat} {on0 : Nat} {nt0 : Nat} (n18 : ab_n0 = 18) (cwh : 0 ≤ wh ∧ wh ≤ 1) (cs90 : 0 ≤ s90 ∧ s90 ≤ 1000000000) (rc : 64 * G0.length + 4600000 ≤ 64 * (ab_n0 + room_1.cells) + (64 * nm0 + 64 * stC ns0 + nt0 + onPQ on0)) (rs : ab_slots G0 + 2360000 ≤ room_1.slots + (zT nm0 52026 + stT ns0 + 2 * nt0 + onSQ on0)) (hd : 16 ≤ d) : ∀ (mz : Nat) {G : ab_G} {o : Nat → Nat} {sb : Int} {on : Nat} {nm : Nat} {ns : Nat} {nt : Nat} {SP : Int → Int} {an : Int} {zz : Int} {lk : Int} {sl : Int} {stm : Int} {sts : Int}, (cc o G w_ 18 (ab_ob 0 [vR f_ready, vR f_tape, vR f_reader, vR f_programs, vR f_subject, vR f_spans, vR f_threads, vR f_marks, vR f_oneMind, vR f_states, vR f_latest, vR f_matches, vR f_pieces, vR f_template, vR f_result, vR f_spare, vz cmp, vz ovs])) → (cc o G f_spans 31 (za 20 SP)) → (cc o G 17 17 (za 12 zFC)) → (cc o G f_programs 81 (ab_rr 6 PG)) → (thI o G f_threads 0) → (mkI o G f_marks nm ns stm) → (omI o G f_oneMind on nt 0) → (stI o G f_states cv cmp sts sb) → (suI o G f_subject n m f) → (pgI o G 0 PG NR cv cmp on) → (0 ≤ sl ∧ sl ≤ 6 ∧ 0 ≤ zz ∧ zz ≤ 400 * sl ∧ 0 ≤ lk ∧ lk ≤ sl) → (rgs SP 20 (-1) 2000) → (an = whI (whT PG cv f n x wh) sl) → (0 ≤ sb ∧ sb ≤ s90 + 2003 * sl) → (64 * G.length + (64 * nm0 + 64 * stC ns0 + nt0 + onPQ on0) ≤ 64 * G0.length + (64 * nm + 64 * stC ns + nt + onPQ on)) → (ab_slots G + (zT nm0 52026 + stT ns0 + 2 * nt0 + onSQ on0) ≤ ab_slots G0 + (zT nm 52026 + stT ns + 2 * nt + onSQ on)) → (onL on0 on) → (wlm (stm + sts) lk n) → (fx o0 o [31, 32, 33, 35, 36, 37, 38, 39, 40, 44, 45, 46, 47, 50, 51, 52, 53, 54, 55, 56, 57, 60, 61, 62, 63, 64, 65, 66, 67, 68, 100, 110, 120, 130, 140, 150] G0 G) → (Int.toNat (6 - sl) < mz) → (∀ (G2 : ab_G) (o2 : Nat → Nat) (nm2 : Nat) (ns2 : Nat) (on2 : Nat) (nt2 : Nat) (an2 : Int) (zz2 : Int) (lk2 : Int) (SP2 : Int → Int) (sm2 : Int) (ss2 : Int) (sb2 : Int), (cc o2 G2 f_spans 31 (za 20 SP2)) → (thI o2 G2 f_threads 0) → (mkI o2 G2 f_marks nm2 ns2 sm2) → (omI o2 G2 f_oneMind on2 nt2 0) → (stI o2 G2 f_states cv cmp ss2 sb2) → (suI o2 G2 f_subject n m f) → (pgI o2 G2 0 PG NR cv cmp on2) → (0 ≤ sb2 ∧ sb2 ≤ s90 + 12018) → (an2 = whI (whT PG cv f n x wh) 6) → (wlm (sm2 + ss2) lk2 n) → (rgs SP2 20 (-1) 2000) → (0 ≤ zz2 ∧ zz2 ≤ 2400 ∧ 0 ≤ lk2 ∧ lk2 ≤ 6) → (64 * G2.length + (64 * nm0 + 64 * stC ns0 + nt0 + onPQ on0) ≤ 64 * G0.length + (64 * nm2 + 64 * stC ns2 + nt2 + onPQ on2)) → (ab_slots G2 + (zT nm0 52026 + stT ns0 + 2 * nt0 + onSQ on0) ≤ ab_slots G0 + (zT nm2 52026 + stT ns2 + 2 * nt2 + onSQ on2)) → (onL on0 on2) → (fx o0 o2 [31, 32, 33, 35, 36, 37, 38, 39, 40, 44, 45, 46, 47, 50, 51, 52, 53, 54, 55, 56, 57, 60, 61, 62, 63, 64, 65, 66, 67, 68, 100, 110, 120, 130, 140, 150] G0 G2) → ab_W X (ab_pl y_PW_which b_PW_which 11 (some (.int))) d G2 147 [some (vR w_), none, none, some (vz an2), some (vz zz2), some (vz lk2), none, none, none, none, none] [] Q) → ab_W X (ab_pl y_PW_which b_PW_which 11 (some (.int))) d G 11 [some (vR w_), some (vz x), some (vz wh), some (vz an), some (vz zz), some (vz lk), some (vz sl), none, none, none, none] [] Q := by
  intro mz
  induction mz with
  | zero => intro G o sb on nm ns nt SP an zz lk sl stm sts hw_ hf_spans h17 hf_programs pthI_f_threads pmkI_f_marks pomI_f_oneMind pstI_f_states psuI_f_subject ppgI_0 ci jsp jan hsb9 hg hs hol hst9 hfr hm hk0; exact absurd hm (Nat.not_lt_zero _)
  | succ mz ih =>
    intro G o sb on nm ns nt SP an zz lk sl stm sts hw_ hf_spans h17 hf_programs pthI_f_threads pmkI_f_marks pomI_f_oneMind pstI_f_states psuI_f_subject ppgI_0 ci jsp jan hsb9 hg hs hol hst9 hfr hm hk0
    refine ab_iload d_PW_which_11 rfl ?_
    refine zz_bipush d_PW_which_13 (by decide) ?_
    refine zz_icmp_ge (tgt := 147) d_PW_which_15 (by decide) (by omega) (by decide) (fun c1 => ?_) (fun c1 => ?_)
    · refine ab_less (L' := [some (vR w_), none, none, some (vz an), some (vz zz), some (vz lk), none, none, none, none, none]) (fun i v h => by rcases i with _ | _ | _ | _ | _ | _ | _ | _ | _ | _ | _ | i <;> first | exact h | (simp at h)) ?_
      exact hk0 _ _ _ _ _ _ _ _ _ _ _ _ _ hf_spans pthI_f_threads pmkI_f_marks pomI_f_oneMind pstI_f_states psuI_f_subject ppgI_0 (by omega) (by rw [show (6 : Int) = sl by omega]; exact jan) (by exact hst9) (by exact jsp) (by omega) (by omega) (by omega) (by exact hol) hfr
    · refine ab_aload_n d_PW_which_18 rfl ?_
      refine ab_getf (fs := [vR f_ready, vR f_tape, vR f_reader, vR f_programs, vR f_subject, vR f_spans, vR f_threads, vR f_marks, vR f_oneMind, vR f_states, vR f_latest, vR f_matches, vR f_pieces, vR f_template, vR f_result, vR f_spare, vz cmp, vz ovs]) f_PW_31 d_PW_which_19 hw_.2.2 rfl ?_
      refine ab_iload d_PW_which_22 rfl ?_
      refine zz_aald d_PW_which_24 hf_programs (by omega) (fun hr2 => ?_) (fun b3 hr2 => ?_)
      · change ab_W _ _ _ G 25 [some (vR w_), some (vz x), some (vz wh), some (vz an), some (vz zz), some (vz lk), some (vz sl), none, none, none, none] [vN] _
        refine ab_astoreN d_PW_which_25 (Nat.le_of_ble_eq_true rfl) (Nat.le_of_ble_eq_true rfl) rfl ?_
        change ab_W _ _ _ G 27 [some (vR w_), some (vz x), some (vz wh), some (vz an), some (vz zz), some (vz lk), some (vz sl), some (vN), none, none, none] [] _
        refine ab_aloadN d_PW_which_27 rfl ?_
        refine ab_ifnullN (tgt := 141) d_PW_which_29 (by decide) ?_
        refine zz_iinc d_PW_which_141 rfl (Nat.le_of_ble_eq_true rfl) (Nat.le_of_ble_eq_true rfl) rfl ?_
        change ab_W _ _ _ G 144 [some (vR w_), some (vz x), some (vz wh), some (vz an), some (vz zz), some (vz lk), some (vz (sl + 1)), some (vN), none, none, none] [] _
        refine ab_goto (tgt := 11) d_PW_which_144 (by decide) ?_
        refine ab_less (L' := [some (vR w_), some (vz x), some (vz wh), some (vz an), some (vz zz), some (vz lk), some (vz (sl + 1)), none, none, none, none]) (fun i v h => by rcases i with _ | _ | _ | _ | _ | _ | _ | _ | _ | _ | _ | i <;> first | exact h | (simp at h)) ?_
        exact ih (sb := sb) (on := on) (nm := nm) (ns := ns) (nt := nt) (SP := SP) (an := an) (zz := zz) (lk := lk) (sl := (sl + 1)) (stm := stm) (sts := sts) hw_ hf_spans h17 hf_programs pthI_f_threads pmkI_f_marks pomI_f_oneMind pstI_f_states psuI_f_subject ppgI_0 (by omega) jsp (whI_n jan (by omega) (whT_0 hr2)) (by omega) (by omega) (by omega) hol (by first | exact hst9 | exact wlm_s hst9 (by omega) (by omega)) hfr (by omega) hk0
      · change ab_W _ _ _ G 25 [some (vR w_), some (vz x), some (vz wh), some (vz an), some (vz zz), some (vz lk), some (vz sl), none, none, none, none] [vR b3] _
        refine ab_astore d_PW_which_25 (Nat.le_of_ble_eq_true rfl) (Nat.le_of_ble_eq_true rfl) rfl ?_
        change ab_W _ _ _ G 27 [some (vR w_), some (vz x), some (vz wh), some (vz an), some (vz zz), some (vz lk), some (vz sl), some (vR b3), none, none, none] [] _
        refine ab_aload d_PW_which_27 rfl ?_
        refine ab_ifnull d_PW_which_29 ?_
        refine ab_iload_n d_PW_which_32 rfl ?_
        refine ab_iload d_PW_which_33 rfl ?_
        refine ab_ishr d_PW_which_35 ?_
        refine zz_iconst d_PW_which_36 ?_
        refine ab_iand d_PW_which_37 ?_
        have hxb_ := (xb_ok x sl).1
        refine ab_topi (xb_ok x sl).2 ?_
        change ab_W _ _ _ G 38 [some (vR w_), some (vz x), some (vz wh), some (vz an), some (vz zz), some (vz lk), some (vz sl), some (vR b3), none, none, none] [vz (xb x sl)] _
        refine zz_if_eq (tgt := 141) d_PW_which_38 (by decide) (by omega) (fun c4 => ?_) (fun c4 => ?_)
        · refine zz_iinc d_PW_which_141 rfl (Nat.le_of_ble_eq_true rfl) (Nat.le_of_ble_eq_true rfl) rfl ?_
          change ab_W _ _ _ G 144 [some (vR w_), some (vz x), some (vz wh), some (vz an), some (vz zz), some (vz lk), some (vz (sl + 1)), some (vR b3), none, none, none] [] _
          refine ab_goto (tgt := 11) d_PW_which_144 (by decide) ?_
          refine ab_less (L' := [some (vR w_), some (vz x), some (vz wh), some (vz an), some (vz zz), some (vz lk), some (vz (sl + 1)), none, none, none, none]) (fun i v h => by rcases i with _ | _ | _ | _ | _ | _ | _ | _ | _ | _ | _ | i <;> first | exact h | (simp at h)) ?_
          exact ih (sb := sb) (on := on) (nm := nm) (ns := ns) (nt := nt) (SP := SP) (an := an) (zz := zz) (lk := lk) (sl := (sl + 1)) (stm := stm) (sts := sts) hw_ hf_spans h17 hf_programs pthI_f_threads pmkI_f_marks pomI_f_oneMind pstI_f_states psuI_f_subject ppgI_0 (by omega) jsp (whI_n jan (by omega) (whT_x (by omega))) (by omega) (by omega) (by omega) hol (by first | exact hst9 | exact wlm_s hst9 (by omega) (by omega)) hfr (by omega) hk0
        · have hk6_ : Int.toNat sl < 6 := by omega
          obtain ⟨⟨mi_, sz_, ppgB_b3⟩, ppgX_0⟩ := ppgI_0.opn hk6_ hr2
          refine ab_iload d_PW_which_41 rfl ?_
          obtain ⟨ki_g, ne_g, ot_g, cnt_g, fi_g, la_g, ra_g, ru_g, gr_g, wi_g, fl_g, ve_g, na_g, nl_g, K_g, N_g, O_g, RR_g, NA_g, NL_g, hb3, hki_g, hne_g, hot_g, hra_g, hna_g, hnl_g, cq_g, hpu_g, hp_g, hr_g, hch_g, cru_g, ck9_g, cfi_g, cgr_g, cfl_g, hpo_g, hmi_g, hvc_g, cve_g, jnl_g, hiv_g, hmn_g, jna_g, hla_g, hpv_g, cv1_g, hkk_g, hoc_g, csz_g⟩ := ppgB_b3
          obtain ⟨by_, co, re, ho, C, Rs, H, mc, hf_subject, hby_, hco, hre, hho, csu, hsu⟩ := psuI_f_subject
          have hmn0_ := hmn_g
          obtain ⟨v9_, hmv_, hpm_⟩ := hmn0_
          refine ab_aload d_PW_which_43 rfl ?_
          refine ab_getf (fs := [vR ki_g, vR ne_g, vR ot_g, vz cnt_g, vz fi_g, vz la_g, vR ra_g, vz ru_g, vz gr_g, vz wi_g, vz sz_, vz fl_g, vz ve_g, vz mi_, vR na_g, vR nl_g]) f_PW_152 d_PW_which_45 hb3.2.2 rfl ?_
          refine zz_iadd d_PW_which_48 ?_
          refine ab_istore d_PW_which_49 (Nat.le_of_ble_eq_true rfl) (Nat.le_of_ble_eq_true rfl) rfl ?_
          change ab_W _ _ _ G 51 [some (vR w_), some (vz x), some (vz wh), some (vz an), some (vz (zz + sz_)), some (vz lk), some (vz sl), some (vR b3), none, none, none] [] _
          refine zz_iinc d_PW_which_51 rfl (Nat.le_of_ble_eq_true rfl) (Nat.le_of_ble_eq_true rfl) rfl ?_
          change ab_W _ _ _ G 54 [some (vR w_), some (vz x), some (vz wh), some (vz an), some (vz (zz + sz_)), some (vz (lk + 1)), some (vz sl), some (vR b3), none, none, none] [] _
          refine ab_iload_n d_PW_which_54 rfl ?_
          refine zz_if_eq (tgt := 62) d_PW_which_55 (by decide) (by omega) (fun c5 => ?_) (fun c5 => ?_)
          · refine zz_iconst d_PW_which_62 ?_
            refine ab_istore d_PW_which_63 (Nat.le_of_ble_eq_true rfl) (Nat.le_of_ble_eq_true rfl) rfl ?_
            change ab_W _ _ _ G 65 [some (vR w_), some (vz x), some (vz wh), some (vz an), some (vz (zz + sz_)), some (vz (lk + 1)), some (vz sl), some (vR b3), some (vz 0), none, none] [] _
            refine ab_aload_n d_PW_which_65 rfl ?_
            refine ab_getf (fs := [vR f_ready, vR f_tape, vR f_reader, vR f_programs, vR f_subject, vR f_spans, vR f_threads, vR f_marks, vR f_oneMind, vR f_states, vR f_latest, vR f_matches, vR f_pieces, vR f_template, vR f_result, vR f_spare, vz cmp, vz ovs]) f_PW_69 d_PW_which_66 hw_.2.2 rfl ?_
            refine ab_aload d_PW_which_69 rfl ?_
            refine ab_aload_n d_PW_which_71 rfl ?_
            refine ab_getf (fs := [vR f_ready, vR f_tape, vR f_reader, vR f_programs, vR f_subject, vR f_spans, vR f_threads, vR f_marks, vR f_oneMind, vR f_states, vR f_latest, vR f_matches, vR f_pieces, vR f_template, vR f_result, vR f_spare, vz cmp, vz ovs]) f_PW_38 d_PW_which_72 hw_.2.2 rfl ?_
            refine ab_iload d_PW_which_75 rfl ?_
            refine zz_iconst d_PW_which_77 ?_
            obtain ⟨cu_s, eg_s, po_s, bg_s, bd_s, sd_s, se__s, stk_s, mst_s, q0_s, vr_s, ro_s, cn_s, ct_s, sc_s, sta_s, arv_s, CU_s, EG_s, PO_s, BG_s, BD_s, SD_s, SE_s, SK_s, hf_states, hcu_s, heg_s, hpo_s, hbg_s, hbd_s, hsd_s, hse__s, hstk_s, jcu_s, ccn_s, cms_s, cvr_s, jbg_s, jpo_s, jbd_s, jeg_s, cro_s, cst0_s, jse_s, csb_s, jsq_s⟩ := pstI_f_states
            refine ab_callV (d' := d - 1) (as := [vR b3, vR f_subject, vz 0, vz 0]) (st := []) (r := _) (z_ST_tell (o := o) (a := f_states) (cu := cu_s) (eg := eg_s) (po := po_s) (bg := bg_s) (bd := bd_s) (sd := sd_s) (se_ := se__s) (stk := stk_s) (mst := mst_s) (q0 := q0_s) (vr := vr_s) (ro := ro_s) (cn := cn_s) (ct := ct_s) (sc := sc_s) (sta := sta_s) (arv := arv_s) (stp := sts) (CU := CU_s) (EG := EG_s) (PO := PO_s) (BG := BG_s) (BD := BD_s) (SD := SD_s) (SE := SE_s) (SK := SK_s) (q := b3) (lq := (100 + 10 * (Int.toNat sl))) (ki := ki_g) (ne := ne_g) (ot := ot_g) (cnt := cnt_g) (fi := fi_g) (la := la_g) (ra := ra_g) (ru := ru_g) (gr := gr_g) (wi := wi_g) (sz := sz_) (fl := fl_g) (ve := ve_g) (mi := mi_) (na := na_g) (nl := nl_g) (K := K_g) (N := N_g) (O := O_g) (RR := RR_g) (nr := (NR (Int.toNat sl))) (s := f_subject) (by_ := by_) (co := co) (re := re) (ho := ho) (n := n) (f := f) (C := C) (Rs := Rs) (m := m) (mc := mc) (KT := (veK cv ve_g)) (NT := (veN cv ve_g)) (OT := (veO cv ve_g)) (RT := (veR cv ve_g)) (p := 0) (hw := 0) (vc := (cv vr_s)) (v9 := v9_) hf_states hcu_s heg_s hpo_s hbg_s hbd_s hsd_s hse__s hstk_s h17 hb3 hki_g hne_g hot_g hra_g hf_subject hby_ hco hre (by omega) hp_g hr_g (by omega) hch_g jcu_s (by omega) (by omega) (by omega) (fun h => by rw [h]; exact hvc_g) jbg_s jpo_s jeg_s jbd_s (by omega) (by omega) (by omega) hsu hsu.1 (by omega) (by omega) (by omega) (by omega) hpv_g.t hpu_g (jsq_s.is hpv_g cv1_g) (by omega) (by omega) jse_s hla_g hpm_ (by omega)) (fun oc G2 h => by rcases h with ⟨_, _, _, _, _, _, _, _, _, _, _, _, _, _, _, _, _, h, _⟩ <;> exact ⟨_, h⟩) (by omega) m_ST_tell ml_PW_224 im_ST_tell se_ST_tell c_ST hf_states.2.2 (Nat.le_of_ble_eq_true rfl) d_PW_which_78 rfl ?_
            intro v G6 hq
            rcases hq with ⟨v7, vr28, cn29, ro210, CU211, ct212, sc213, sta214, st215, ar216, EG217, PO218, BG219, BD220, SD221, SE222, SK223, hv, hfk, hlk, hsk, hNf_states, hNcu_s, hNeg_s, hNpo_s, hNbg_s, hNbd_s, hNsd_s, hNse__s, hNstk_s, hq24, hq25, hq26, hq27, hq28, hq29, hq30, hq31, hq32, hq33, hq34, hq35, hq36⟩
            cases hv
            have hw_ := hfk.get hw_ (by decide)
            have hf_spans := hfk.get hf_spans (by decide)
            have h17 := hfk.get h17 (by decide)
            have hf_programs := hfk.get hf_programs (by decide)
            have hb3 := hfk.get hb3 (by simp only [List.mem_cons, List.not_mem_nil, or_false]; omega)
            have hki_g := hfk.get hki_g (by simp only [List.mem_cons, List.not_mem_nil, or_false]; omega)
            have hne_g := hfk.get hne_g (by simp only [List.mem_cons, List.not_mem_nil, or_false]; omega)
            have hot_g := hfk.get hot_g (by simp only [List.mem_cons, List.not_mem_nil, or_false]; omega)
            have hra_g := hfk.get hra_g (by simp only [List.mem_cons, List.not_mem_nil, or_false]; omega)
            have hna_g := hfk.get hna_g (by simp only [List.mem_cons, List.not_mem_nil, or_false]; omega)
            have hnl_g := hfk.get hnl_g (by simp only [List.mem_cons, List.not_mem_nil, or_false]; omega)
            have hf_subject := hfk.get hf_subject (by decide)
            have hby_ := hfk.get hby_ (by decide)
            have hco := hfk.get hco (by decide)
            have hre := hfk.get hre (by decide)
            have hho := hfk.get hho (by decide)
            have pthI_f_threads := thI.fr hfk pthI_f_threads (by decide) (by decide) (by decide) (by decide) (by decide) (by decide) (by decide) (by decide)
            have pmkI_f_marks := mkI.fr hfk pmkI_f_marks (by decide) (by decide) (by decide) (by decide)
            have pomI_f_oneMind := omI.fr hfk pomI_f_oneMind (by decide) (by decide) (by decide) (by decide) (by decide) (by decide) (by decide) (by decide)
            have ppgX_0 := pgX.fr hfk ppgX_0 (fun xx hx => Or.inl ((show ∀ y ∈ ([60, 61, 62, 63, 64, 65, 66, 67, 68] : List Nat), y < 100 by decide) xx hx))
            have hfr := hfr.tr hfk (by decide)
            have hq37 := hlk
            have hq38 := hsk
            have hf_states := hNf_states
            have hcu_s := hNcu_s
            have heg_s := hNeg_s
            have hpo_s := hNpo_s
            have hbg_s := hNbg_s
            have hbd_s := hNbd_s
            have hsd_s := hNsd_s
            have hse__s := hNse__s
            have hstk_s := hNstk_s
            change ab_W _ _ _ G6 81 [some (vR w_), some (vz x), some (vz wh), some (vz an), some (vz (zz + sz_)), some (vz (lk + 1)), some (vz sl), some (vR b3), some (vz 0), none, none] [vz v7] _
            have pstI_f_states : stI o G6 f_states cv cmp st215 (sb + 2003) := ⟨cu_s, eg_s, po_s, bg_s, bd_s, sd_s, se__s, stk_s, mst_s, vR b3, vr28, ro210, cn29, ct212, sc213, sta214, ar216, CU211, EG217, PO218, BG219, BD220, SD221, SE222, SK223, hf_states, hcu_s, heg_s, hpo_s, hbg_s, hbd_s, hsd_s, hse__s, hstk_s, hq31, (by omega), (by omega), (by omega), hq25, (by rw [show vr28 = ve_g by omega, hvc_g]; exact hq26), hq27, hq28, (by omega), (by omega), hq29, (by omega), (stQ_mk hq34 hpv_g (by omega) (by omega) (by omega))⟩
            have hmq_ : onq mi_ on := hmi_g
            have ppgB_b3 : pgB o G6 b3 (100 + 10 * (Int.toNat sl)) (NR (Int.toNat sl)) cv cmp on mi_ sz_ := ⟨ki_g, ne_g, ot_g, cnt_g, fi_g, la_g, ra_g, ru_g, gr_g, wi_g, fl_g, ve_g, na_g, nl_g, K_g, N_g, O_g, RR_g, NA_g, NL_g, hb3, hki_g, hne_g, hot_g, hra_g, hna_g, hnl_g, (by omega), hpu_g, hp_g, hr_g, hch_g, (by omega), (by omega), (by omega), (by omega), (by omega), hpo_g, hmq_, (by omega), (by omega), jnl_g, hiv_g, hmn_g, jna_g, hla_g, hpv_g, (by omega), hkk_g, hoc_g, (by omega)⟩
            have psuI_f_subject : suI o G6 f_subject n m f := ⟨by_, co, re, ho, C, Rs, H, mc, hf_subject, hby_, hco, hre, hho, (by omega), hsu⟩
            have hq39 := stT_le ns
            have hq40 := stC_le ns
            have hq41 := onPQ_le on
            have hq42 := onSQ_le on
            have hnt_ := pomI_f_oneMind.nt
            refine ab_istore d_PW_which_81 (Nat.le_of_ble_eq_true rfl) (Nat.le_of_ble_eq_true rfl) rfl ?_
            change ab_W _ _ _ G6 83 [some (vR w_), some (vz x), some (vz wh), some (vz an), some (vz (zz + sz_)), some (vz (lk + 1)), some (vz sl), some (vR b3), some (vz 0), some (vz v7), none] [] _
            refine ab_iload d_PW_which_83 rfl ?_
            refine zz_bipush d_PW_which_85 (by decide) ?_
            refine zz_icmp_ne (tgt := 112) d_PW_which_87 (by decide) (by omega) (by decide) (fun c43 => ?_) (fun c43 => ?_)
            · refine ab_iload d_PW_which_112 rfl ?_
              refine zz_iconst d_PW_which_114 ?_
              refine zz_icmp_ne (tgt := 122) d_PW_which_115 (by decide) (by omega) (by decide) (fun c44 => ?_) (fun c44 => ?_)
              · refine zz_iconst d_PW_which_122 ?_
                have ppgI_0 := ppgX_0.cls hr2 ppgB_b3
                refine ab_istore d_PW_which_123 (Nat.le_of_ble_eq_true rfl) (Nat.le_of_ble_eq_true rfl) rfl ?_
                change ab_W _ _ _ G6 125 [some (vR w_), some (vz x), some (vz wh), some (vz an), some (vz (zz + sz_)), some (vz (lk + 1)), some (vz sl), some (vR b3), some (vz 0), some (vz v7), some (vz 0)] [] _
                refine ab_iload_n d_PW_which_125 rfl ?_
                refine ab_iload d_PW_which_126 rfl ?_
                refine zz_if_eq (tgt := 138) d_PW_which_128 (by decide) (by decide) (fun c45 => ?_) (fun c45 => absurd c45 (by decide))
                refine zz_iconst d_PW_which_138 ?_
                refine zz_iorL (r := an) d_PW_which_139 (z_or0 _) ?_
                change ab_W _ _ _ G6 140 [some (vR w_), some (vz x), some (vz wh), some (vz an), some (vz (zz + sz_)), some (vz (lk + 1)), some (vz sl), some (vR b3), some (vz 0), some (vz v7), some (vz 0)] [vz an] _
                refine ab_istore_n d_PW_which_140 (Nat.le_of_ble_eq_true rfl) (Nat.le_of_ble_eq_true rfl) rfl ?_
                change ab_W _ _ _ G6 141 [some (vR w_), some (vz x), some (vz wh), some (vz an), some (vz (zz + sz_)), some (vz (lk + 1)), some (vz sl), some (vR b3), some (vz 0), some (vz v7), some (vz 0)] [] _
                refine zz_iinc d_PW_which_141 rfl (Nat.le_of_ble_eq_true rfl) (Nat.le_of_ble_eq_true rfl) rfl ?_
                change ab_W _ _ _ G6 144 [some (vR w_), some (vz x), some (vz wh), some (vz an), some (vz (zz + sz_)), some (vz (lk + 1)), some (vz (sl + 1)), some (vR b3), some (vz 0), some (vz v7), some (vz 0)] [] _
                refine ab_goto (tgt := 11) d_PW_which_144 (by decide) ?_
                refine ab_less (L' := [some (vR w_), some (vz x), some (vz wh), some (vz an), some (vz (zz + sz_)), some (vz (lk + 1)), some (vz (sl + 1)), none, none, none, none]) (fun i v h => by rcases i with _ | _ | _ | _ | _ | _ | _ | _ | _ | _ | _ | i <;> first | exact h | (simp at h)) ?_
                exact ih (sb := (sb + 2003)) (on := on) (nm := nm) (ns := ns) (nt := nt) (SP := SP) (an := an) (zz := (zz + sz_)) (lk := (lk + 1)) (sl := (sl + 1)) (stm := stm) (sts := st215) hw_ hf_spans h17 hf_programs pthI_f_threads pmkI_f_marks pomI_f_oneMind pstI_f_states psuI_f_subject ppgI_0 (by omega) jsp (whI_n jan (by omega) (whT_f (hwW_0 (by omega)) (tlC_f hq35 hmv_ (by omega)))) (by omega) (by omega) (by omega) hol (by first | exact hst9 | exact wlm_s hst9 (by omega) (by omega)) hfr (by omega) hk0
              · refine zz_iconst d_PW_which_118 ?_
                refine ab_goto (tgt := 123) d_PW_which_119 (by decide) ?_
                have ppgI_0 := ppgX_0.cls hr2 ppgB_b3
                refine ab_istore d_PW_which_123 (Nat.le_of_ble_eq_true rfl) (Nat.le_of_ble_eq_true rfl) rfl ?_
                change ab_W _ _ _ G6 125 [some (vR w_), some (vz x), some (vz wh), some (vz an), some (vz (zz + sz_)), some (vz (lk + 1)), some (vz sl), some (vR b3), some (vz 0), some (vz v7), some (vz 1)] [] _
                refine ab_iload_n d_PW_which_125 rfl ?_
                refine ab_iload d_PW_which_126 rfl ?_
                refine zz_if_eq (tgt := 138) d_PW_which_128 (by decide) (by decide) (fun c46 => absurd c46 (by decide)) (fun c46 => ?_)
                refine zz_iconst d_PW_which_131 ?_
                refine ab_iload d_PW_which_132 rfl ?_
                refine zz_shl1 d_PW_which_134 (by omega) ?_
                change ab_W _ _ _ G6 135 [some (vR w_), some (vz x), some (vz wh), some (vz an), some (vz (zz + sz_)), some (vz (lk + 1)), some (vz sl), some (vR b3), some (vz 0), some (vz v7), some (vz 1)] [vz (tw sl), vz an] _
                refine ab_goto (tgt := 139) d_PW_which_135 (by decide) ?_
                refine zz_iortw d_PW_which_139 ?_
                change ab_W _ _ _ G6 140 [some (vR w_), some (vz x), some (vz wh), some (vz an), some (vz (zz + sz_)), some (vz (lk + 1)), some (vz sl), some (vR b3), some (vz 0), some (vz v7), some (vz 1)] [vz (stb an sl)] _
                refine ab_istore_n d_PW_which_140 (Nat.le_of_ble_eq_true rfl) (Nat.le_of_ble_eq_true rfl) rfl ?_
                change ab_W _ _ _ G6 141 [some (vR w_), some (vz x), some (vz wh), some (vz (stb an sl)), some (vz (zz + sz_)), some (vz (lk + 1)), some (vz sl), some (vR b3), some (vz 0), some (vz v7), some (vz 1)] [] _
                refine zz_iinc d_PW_which_141 rfl (Nat.le_of_ble_eq_true rfl) (Nat.le_of_ble_eq_true rfl) rfl ?_
                change ab_W _ _ _ G6 144 [some (vR w_), some (vz x), some (vz wh), some (vz (stb an sl)), some (vz (zz + sz_)), some (vz (lk + 1)), some (vz (sl + 1)), some (vR b3), some (vz 0), some (vz v7), some (vz 1)] [] _
                refine ab_goto (tgt := 11) d_PW_which_144 (by decide) ?_
                refine ab_less (L' := [some (vR w_), some (vz x), some (vz wh), some (vz (stb an sl)), some (vz (zz + sz_)), some (vz (lk + 1)), some (vz (sl + 1)), none, none, none, none]) (fun i v h => by rcases i with _ | _ | _ | _ | _ | _ | _ | _ | _ | _ | _ | i <;> first | exact h | (simp at h)) ?_
                exact ih (sb := (sb + 2003)) (on := on) (nm := nm) (ns := ns) (nt := nt) (SP := SP) (an := (stb an sl)) (zz := (zz + sz_)) (lk := (lk + 1)) (sl := (sl + 1)) (stm := stm) (sts := st215) hw_ hf_spans h17 hf_programs pthI_f_threads pmkI_f_marks pomI_f_oneMind pstI_f_states psuI_f_subject ppgI_0 (by omega) jsp (whI_y jan (by omega) (whT_y hr2 (by omega) (hwW_0 (by omega)) hsu.1 (tlC_t hq35 hmv_ hpm_ (by omega)))) (by omega) (by omega) (by omega) hol (by first | exact hst9 | exact wlm_s hst9 (by omega) (by omega)) hfr (by omega) hk0
            · refine ab_aload_n d_PW_which_90 rfl ?_
              refine ab_aload d_PW_which_91 rfl ?_
              refine ab_iload d_PW_which_93 rfl ?_
              refine zz_iconst d_PW_which_95 ?_
              refine zz_iconst d_PW_which_96 ?_
              refine ab_callV (d' := d - 1) (as := [vR b3, vz 0, vz 0, vz 0]) (st := []) (r := _) (z0_PW_run (o := o) (w_ := w_) (f_ready := f_ready) (f_tape := f_tape) (f_reader := f_reader) (f_programs := f_programs) (f_subject := f_subject) (f_spans := f_spans) (f_threads := f_threads) (f_marks := f_marks) (f_oneMind := f_oneMind) (f_states := f_states) (f_latest := f_latest) (f_matches := f_matches) (f_pieces := f_pieces) (f_template := f_template) (f_result := f_result) (f_spare := f_spare) (cmp := cmp) (ovs := ovs) (q := b3) (lq := (100 + 10 * (Int.toNat sl))) (nr := (NR (Int.toNat sl))) (cv := cv) (on := on) (mi := mi_) (nm := nm) (ns := ns) (n := n) (m := m) (SP := SP) (f := f) (hw := 0) (p := 0) (stm := stm) (sz := sz_) hw_ hf_spans h17 pmkI_f_marks psuI_f_subject ppgB_b3 (by omega) (by omega) jsp (by omega) (by omega) (by omega)) (fun oc G2 h => by rcases h with ⟨_, _, _, _, _, _, h, _⟩ <;> exact ⟨_, h⟩) (by omega) m_PW_run ml_PW_171 im_PW_run se_PW_run c_PW hw_.2.2 (Nat.le_of_ble_eq_true rfl) d_PW_which_97 rfl ?_
              intro v G47 hq
              rcases hq with ⟨o48, nm249, ns250, SP251, r52, s2_53, hv, hfk, hNf_spans, pNmkI_f_marks, pNsuI_f_subject, pNpgB_b3, hq54, hq55, hq56, hq57, hq58, hq59⟩
              cases hv
              have hw_ := hfk.get hw_ (by decide)
              have h17 := hfk.get h17 (by decide)
              have hf_programs := hfk.get hf_programs (by decide)
              have pthI_f_threads := thI.fr hfk pthI_f_threads (by decide) (by decide) (by decide) (by decide) (by decide) (by decide) (by decide) (by decide)
              have pomI_f_oneMind := omI.fr hfk pomI_f_oneMind (by decide) (by decide) (by decide) (by decide) (by decide) (by decide) (by decide) (by decide)
              have ppgX_0 := pgX.fr hfk ppgX_0 (fun xx hx => Or.inl ((show ∀ y ∈ ([31, 44, 45, 46, 47] : List Nat), y < 100 by decide) xx hx))
              have pstI_f_states := stI.fr hfk pstI_f_states (by decide) (by decide) (by decide) (by decide) (by decide) (by decide) (by decide) (by decide) (by decide)
              have pmkI_f_marks := pNmkI_f_marks
              have psuI_f_subject := pNsuI_f_subject
              have ppgB_b3 := pNpgB_b3
              have hfr := hfr.tr hfk (by decide)
              have hq60 := hfk.1
              have hf_spans := hNf_spans
              change ab_W _ _ _ G47 100 [some (vR w_), some (vz x), some (vz wh), some (vz an), some (vz (zz + sz_)), some (vz (lk + 1)), some (vz sl), some (vR b3), some (vz 0), some (vz v7), none] [vz r52] _
              refine zz_iconst d_PW_which_100 ?_
              refine zz_icmp_eq (tgt := 108) d_PW_which_101 (by decide) (by omega) (by decide) (fun c61 => ?_) (fun c61 => ?_)
              · refine zz_iconst d_PW_which_108 ?_
                refine ab_goto (tgt := 123) d_PW_which_109 (by decide) ?_
                have ppgI_0 := ppgX_0.cls hr2 ppgB_b3
                refine ab_istore d_PW_which_123 (Nat.le_of_ble_eq_true rfl) (Nat.le_of_ble_eq_true rfl) rfl ?_
                change ab_W _ _ _ G47 125 [some (vR w_), some (vz x), some (vz wh), some (vz an), some (vz (zz + sz_)), some (vz (lk + 1)), some (vz sl), some (vR b3), some (vz 0), some (vz v7), some (vz 0)] [] _
                refine ab_iload_n d_PW_which_125 rfl ?_
                refine ab_iload d_PW_which_126 rfl ?_
                refine zz_if_eq (tgt := 138) d_PW_which_128 (by decide) (by decide) (fun c62 => ?_) (fun c62 => absurd c62 (by decide))
                refine zz_iconst d_PW_which_138 ?_
                refine zz_iorL (r := an) d_PW_which_139 (z_or0 _) ?_
                change ab_W _ _ _ G47 140 [some (vR w_), some (vz x), some (vz wh), some (vz an), some (vz (zz + sz_)), some (vz (lk + 1)), some (vz sl), some (vR b3), some (vz 0), some (vz v7), some (vz 0)] [vz an] _
                refine ab_istore_n d_PW_which_140 (Nat.le_of_ble_eq_true rfl) (Nat.le_of_ble_eq_true rfl) rfl ?_
                change ab_W _ _ _ G47 141 [some (vR w_), some (vz x), some (vz wh), some (vz an), some (vz (zz + sz_)), some (vz (lk + 1)), some (vz sl), some (vR b3), some (vz 0), some (vz v7), some (vz 0)] [] _
                refine zz_iinc d_PW_which_141 rfl (Nat.le_of_ble_eq_true rfl) (Nat.le_of_ble_eq_true rfl) rfl ?_
                change ab_W _ _ _ G47 144 [some (vR w_), some (vz x), some (vz wh), some (vz an), some (vz (zz + sz_)), some (vz (lk + 1)), some (vz (sl + 1)), some (vR b3), some (vz 0), some (vz v7), some (vz 0)] [] _
                refine ab_goto (tgt := 11) d_PW_which_144 (by decide) ?_
                refine ab_less (L' := [some (vR w_), some (vz x), some (vz wh), some (vz an), some (vz (zz + sz_)), some (vz (lk + 1)), some (vz (sl + 1)), none, none, none, none]) (fun i v h => by rcases i with _ | _ | _ | _ | _ | _ | _ | _ | _ | _ | _ | i <;> first | exact h | (simp at h)) ?_
                exact ih (sb := (sb + 2003)) (on := on) (nm := nm249) (ns := ns250) (nt := nt) (SP := SP251) (an := an) (zz := (zz + sz_)) (lk := (lk + 1)) (sl := (sl + 1)) (stm := s2_53) (sts := st215) hw_ hf_spans h17 hf_programs pthI_f_threads pmkI_f_marks pomI_f_oneMind pstI_f_states psuI_f_subject ppgI_0 (by omega) hq57 (whI_n jan (by omega) (whT_f (hwW_0 (by omega)) (rnX_f hq54 (by omega)))) (by omega) (by omega) (by omega) hol (by first | exact hst9 | exact wlm_s hst9 (by omega) (by omega)) hfr (by omega) hk0
              · refine zz_iconst d_PW_which_104 ?_
                refine ab_goto (tgt := 123) d_PW_which_105 (by decide) ?_
                have ppgI_0 := ppgX_0.cls hr2 ppgB_b3
                refine ab_istore d_PW_which_123 (Nat.le_of_ble_eq_true rfl) (Nat.le_of_ble_eq_true rfl) rfl ?_
                change ab_W _ _ _ G47 125 [some (vR w_), some (vz x), some (vz wh), some (vz an), some (vz (zz + sz_)), some (vz (lk + 1)), some (vz sl), some (vR b3), some (vz 0), some (vz v7), some (vz 1)] [] _
                refine ab_iload_n d_PW_which_125 rfl ?_
                refine ab_iload d_PW_which_126 rfl ?_
                refine zz_if_eq (tgt := 138) d_PW_which_128 (by decide) (by decide) (fun c63 => absurd c63 (by decide)) (fun c63 => ?_)
                refine zz_iconst d_PW_which_131 ?_
                refine ab_iload d_PW_which_132 rfl ?_
                refine zz_shl1 d_PW_which_134 (by omega) ?_
                change ab_W _ _ _ G47 135 [some (vR w_), some (vz x), some (vz wh), some (vz an), some (vz (zz + sz_)), some (vz (lk + 1)), some (vz sl), some (vR b3), some (vz 0), some (vz v7), some (vz 1)] [vz (tw sl), vz an] _
                refine ab_goto (tgt := 139) d_PW_which_135 (by decide) ?_
                refine zz_iortw d_PW_which_139 ?_
                change ab_W _ _ _ G47 140 [some (vR w_), some (vz x), some (vz wh), some (vz an), some (vz (zz + sz_)), some (vz (lk + 1)), some (vz sl), some (vR b3), some (vz 0), some (vz v7), some (vz 1)] [vz (stb an sl)] _
                refine ab_istore_n d_PW_which_140 (Nat.le_of_ble_eq_true rfl) (Nat.le_of_ble_eq_true rfl) rfl ?_
                change ab_W _ _ _ G47 141 [some (vR w_), some (vz x), some (vz wh), some (vz (stb an sl)), some (vz (zz + sz_)), some (vz (lk + 1)), some (vz sl), some (vR b3), some (vz 0), some (vz v7), some (vz 1)] [] _
                refine zz_iinc d_PW_which_141 rfl (Nat.le_of_ble_eq_true rfl) (Nat.le_of_ble_eq_true rfl) rfl ?_
                change ab_W _ _ _ G47 144 [some (vR w_), some (vz x), some (vz wh), some (vz (stb an sl)), some (vz (zz + sz_)), some (vz (lk + 1)), some (vz (sl + 1)), some (vR b3), some (vz 0), some (vz v7), some (vz 1)] [] _
                refine ab_goto (tgt := 11) d_PW_which_144 (by decide) ?_
                refine ab_less (L' := [some (vR w_), some (vz x), some (vz wh), some (vz (stb an sl)), some (vz (zz + sz_)), some (vz (lk + 1)), some (vz (sl + 1)), none, none, none, none]) (fun i v h => by rcases i with _ | _ | _ | _ | _ | _ | _ | _ | _ | _ | _ | i <;> first | exact h | (simp at h)) ?_
                exact ih (sb := (sb + 2003)) (on := on) (nm := nm249) (ns := ns250) (nt := nt) (SP := SP251) (an := (stb an sl)) (zz := (zz + sz_)) (lk := (lk + 1)) (sl := (sl + 1)) (stm := s2_53) (sts := st215) hw_ hf_spans h17 hf_programs pthI_f_threads pmkI_f_marks pomI_f_oneMind pstI_f_states psuI_f_subject ppgI_0 (by omega) hq57 (whI_y jan (by omega) (whT_y hr2 (by omega) (hwW_0 (by omega)) hsu.1 (rnX_t hq54 (by omega)))) (by omega) (by omega) (by omega) hol (by first | exact hst9 | exact wlm_s hst9 (by omega) (by omega)) hfr (by omega) hk0
          · refine zz_iconst d_PW_which_58 ?_
            refine ab_goto (tgt := 63) d_PW_which_59 (by decide) ?_
            refine ab_istore d_PW_which_63 (Nat.le_of_ble_eq_true rfl) (Nat.le_of_ble_eq_true rfl) rfl ?_
            change ab_W _ _ _ G 65 [some (vR w_), some (vz x), some (vz wh), some (vz an), some (vz (zz + sz_)), some (vz (lk + 1)), some (vz sl), some (vR b3), some (vz 2), none, none] [] _
            refine ab_aload_n d_PW_which_65 rfl ?_
            refine ab_getf (fs := [vR f_ready, vR f_tape, vR f_reader, vR f_programs, vR f_subject, vR f_spans, vR f_threads, vR f_marks, vR f_oneMind, vR f_states, vR f_latest, vR f_matches, vR f_pieces, vR f_template, vR f_result, vR f_spare, vz cmp, vz ovs]) f_PW_69 d_PW_which_66 hw_.2.2 rfl ?_
            refine ab_aload d_PW_which_69 rfl ?_
            refine ab_aload_n d_PW_which_71 rfl ?_
            refine ab_getf (fs := [vR f_ready, vR f_tape, vR f_reader, vR f_programs, vR f_subject, vR f_spans, vR f_threads, vR f_marks, vR f_oneMind, vR f_states, vR f_latest, vR f_matches, vR f_pieces, vR f_template, vR f_result, vR f_spare, vz cmp, vz ovs]) f_PW_38 d_PW_which_72 hw_.2.2 rfl ?_
            refine ab_iload d_PW_which_75 rfl ?_
            refine zz_iconst d_PW_which_77 ?_
            obtain ⟨cu_s, eg_s, po_s, bg_s, bd_s, sd_s, se__s, stk_s, mst_s, q0_s, vr_s, ro_s, cn_s, ct_s, sc_s, sta_s, arv_s, CU_s, EG_s, PO_s, BG_s, BD_s, SD_s, SE_s, SK_s, hf_states, hcu_s, heg_s, hpo_s, hbg_s, hbd_s, hsd_s, hse__s, hstk_s, jcu_s, ccn_s, cms_s, cvr_s, jbg_s, jpo_s, jbd_s, jeg_s, cro_s, cst0_s, jse_s, csb_s, jsq_s⟩ := pstI_f_states
            refine ab_callV (d' := d - 1) (as := [vR b3, vR f_subject, vz 2, vz 0]) (st := []) (r := _) (z_ST_tell (o := o) (a := f_states) (cu := cu_s) (eg := eg_s) (po := po_s) (bg := bg_s) (bd := bd_s) (sd := sd_s) (se_ := se__s) (stk := stk_s) (mst := mst_s) (q0 := q0_s) (vr := vr_s) (ro := ro_s) (cn := cn_s) (ct := ct_s) (sc := sc_s) (sta := sta_s) (arv := arv_s) (stp := sts) (CU := CU_s) (EG := EG_s) (PO := PO_s) (BG := BG_s) (BD := BD_s) (SD := SD_s) (SE := SE_s) (SK := SK_s) (q := b3) (lq := (100 + 10 * (Int.toNat sl))) (ki := ki_g) (ne := ne_g) (ot := ot_g) (cnt := cnt_g) (fi := fi_g) (la := la_g) (ra := ra_g) (ru := ru_g) (gr := gr_g) (wi := wi_g) (sz := sz_) (fl := fl_g) (ve := ve_g) (mi := mi_) (na := na_g) (nl := nl_g) (K := K_g) (N := N_g) (O := O_g) (RR := RR_g) (nr := (NR (Int.toNat sl))) (s := f_subject) (by_ := by_) (co := co) (re := re) (ho := ho) (n := n) (f := f) (C := C) (Rs := Rs) (m := m) (mc := mc) (KT := (veK cv ve_g)) (NT := (veN cv ve_g)) (OT := (veO cv ve_g)) (RT := (veR cv ve_g)) (p := 0) (hw := 2) (vc := (cv vr_s)) (v9 := v9_) hf_states hcu_s heg_s hpo_s hbg_s hbd_s hsd_s hse__s hstk_s h17 hb3 hki_g hne_g hot_g hra_g hf_subject hby_ hco hre (by omega) hp_g hr_g (by omega) hch_g jcu_s (by omega) (by omega) (by omega) (fun h => by rw [h]; exact hvc_g) jbg_s jpo_s jeg_s jbd_s (by omega) (by omega) (by omega) hsu hsu.1 (by omega) (by omega) (by omega) (by omega) hpv_g.t hpu_g (jsq_s.is hpv_g cv1_g) (by omega) (by omega) jse_s hla_g hpm_ (by omega)) (fun oc G2 h => by rcases h with ⟨_, _, _, _, _, _, _, _, _, _, _, _, _, _, _, _, _, h, _⟩ <;> exact ⟨_, h⟩) (by omega) m_ST_tell ml_PW_224 im_ST_tell se_ST_tell c_ST hf_states.2.2 (Nat.le_of_ble_eq_true rfl) d_PW_which_78 rfl ?_
            intro v G64 hq
            rcases hq with ⟨v65, vr266, cn267, ro268, CU269, ct270, sc271, sta272, st273, ar274, EG275, PO276, BG277, BD278, SD279, SE280, SK281, hv, hfk, hlk, hsk, hNf_states, hNcu_s, hNeg_s, hNpo_s, hNbg_s, hNbd_s, hNsd_s, hNse__s, hNstk_s, hq82, hq83, hq84, hq85, hq86, hq87, hq88, hq89, hq90, hq91, hq92, hq93, hq94⟩
            cases hv
            have hw_ := hfk.get hw_ (by decide)
            have hf_spans := hfk.get hf_spans (by decide)
            have h17 := hfk.get h17 (by decide)
            have hf_programs := hfk.get hf_programs (by decide)
            have hb3 := hfk.get hb3 (by simp only [List.mem_cons, List.not_mem_nil, or_false]; omega)
            have hki_g := hfk.get hki_g (by simp only [List.mem_cons, List.not_mem_nil, or_false]; omega)
            have hne_g := hfk.get hne_g (by simp only [List.mem_cons, List.not_mem_nil, or_false]; omega)
            have hot_g := hfk.get hot_g (by simp only [List.mem_cons, List.not_mem_nil, or_false]; omega)
            have hra_g := hfk.get hra_g (by simp only [List.mem_cons, List.not_mem_nil, or_false]; omega)
            have hna_g := hfk.get hna_g (by simp only [List.mem_cons, List.not_mem_nil, or_false]; omega)
            have hnl_g := hfk.get hnl_g (by simp only [List.mem_cons, List.not_mem_nil, or_false]; omega)
            have hf_subject := hfk.get hf_subject (by decide)
            have hby_ := hfk.get hby_ (by decide)
            have hco := hfk.get hco (by decide)
            have hre := hfk.get hre (by decide)
            have hho := hfk.get hho (by decide)
            have pthI_f_threads := thI.fr hfk pthI_f_threads (by decide) (by decide) (by decide) (by decide) (by decide) (by decide) (by decide) (by decide)
            have pmkI_f_marks := mkI.fr hfk pmkI_f_marks (by decide) (by decide) (by decide) (by decide)
            have pomI_f_oneMind := omI.fr hfk pomI_f_oneMind (by decide) (by decide) (by decide) (by decide) (by decide) (by decide) (by decide) (by decide)
            have ppgX_0 := pgX.fr hfk ppgX_0 (fun xx hx => Or.inl ((show ∀ y ∈ ([60, 61, 62, 63, 64, 65, 66, 67, 68] : List Nat), y < 100 by decide) xx hx))
            have hfr := hfr.tr hfk (by decide)
            have hq95 := hlk
            have hq96 := hsk
            have hf_states := hNf_states
            have hcu_s := hNcu_s
            have heg_s := hNeg_s
            have hpo_s := hNpo_s
            have hbg_s := hNbg_s
            have hbd_s := hNbd_s
            have hsd_s := hNsd_s
            have hse__s := hNse__s
            have hstk_s := hNstk_s
            change ab_W _ _ _ G64 81 [some (vR w_), some (vz x), some (vz wh), some (vz an), some (vz (zz + sz_)), some (vz (lk + 1)), some (vz sl), some (vR b3), some (vz 2), none, none] [vz v65] _
            have pstI_f_states : stI o G64 f_states cv cmp st273 (sb + 2003) := ⟨cu_s, eg_s, po_s, bg_s, bd_s, sd_s, se__s, stk_s, mst_s, vR b3, vr266, ro268, cn267, ct270, sc271, sta272, ar274, CU269, EG275, PO276, BG277, BD278, SD279, SE280, SK281, hf_states, hcu_s, heg_s, hpo_s, hbg_s, hbd_s, hsd_s, hse__s, hstk_s, hq89, (by omega), (by omega), (by omega), hq83, (by rw [show vr266 = ve_g by omega, hvc_g]; exact hq84), hq85, hq86, (by omega), (by omega), hq87, (by omega), (stQ_mk hq92 hpv_g (by omega) (by omega) (by omega))⟩
            have hmq_ : onq mi_ on := hmi_g
            have ppgB_b3 : pgB o G64 b3 (100 + 10 * (Int.toNat sl)) (NR (Int.toNat sl)) cv cmp on mi_ sz_ := ⟨ki_g, ne_g, ot_g, cnt_g, fi_g, la_g, ra_g, ru_g, gr_g, wi_g, fl_g, ve_g, na_g, nl_g, K_g, N_g, O_g, RR_g, NA_g, NL_g, hb3, hki_g, hne_g, hot_g, hra_g, hna_g, hnl_g, (by omega), hpu_g, hp_g, hr_g, hch_g, (by omega), (by omega), (by omega), (by omega), (by omega), hpo_g, hmq_, (by omega), (by omega), jnl_g, hiv_g, hmn_g, jna_g, hla_g, hpv_g, (by omega), hkk_g, hoc_g, (by omega)⟩
            have psuI_f_subject : suI o G64 f_subject n m f := ⟨by_, co, re, ho, C, Rs, H, mc, hf_subject, hby_, hco, hre, hho, (by omega), hsu⟩
            have hq97 := stT_le ns
            have hq98 := stC_le ns
            have hq99 := onPQ_le on
            have hq100 := onSQ_le on
            have hnt_ := pomI_f_oneMind.nt
            refine ab_istore d_PW_which_81 (Nat.le_of_ble_eq_true rfl) (Nat.le_of_ble_eq_true rfl) rfl ?_
            change ab_W _ _ _ G64 83 [some (vR w_), some (vz x), some (vz wh), some (vz an), some (vz (zz + sz_)), some (vz (lk + 1)), some (vz sl), some (vR b3), some (vz 2), some (vz v65), none] [] _
            refine ab_iload d_PW_which_83 rfl ?_
            refine zz_bipush d_PW_which_85 (by decide) ?_
            refine zz_icmp_ne (tgt := 112) d_PW_which_87 (by decide) (by omega) (by decide) (fun c101 => ?_) (fun c101 => ?_)
            · refine ab_iload d_PW_which_112 rfl ?_
              refine zz_iconst d_PW_which_114 ?_
              refine zz_icmp_ne (tgt := 122) d_PW_which_115 (by decide) (by omega) (by decide) (fun c102 => ?_) (fun c102 => ?_)
              · refine zz_iconst d_PW_which_122 ?_
                have ppgI_0 := ppgX_0.cls hr2 ppgB_b3
                refine ab_istore d_PW_which_123 (Nat.le_of_ble_eq_true rfl) (Nat.le_of_ble_eq_true rfl) rfl ?_
                change ab_W _ _ _ G64 125 [some (vR w_), some (vz x), some (vz wh), some (vz an), some (vz (zz + sz_)), some (vz (lk + 1)), some (vz sl), some (vR b3), some (vz 2), some (vz v65), some (vz 0)] [] _
                refine ab_iload_n d_PW_which_125 rfl ?_
                refine ab_iload d_PW_which_126 rfl ?_
                refine zz_if_eq (tgt := 138) d_PW_which_128 (by decide) (by decide) (fun c103 => ?_) (fun c103 => absurd c103 (by decide))
                refine zz_iconst d_PW_which_138 ?_
                refine zz_iorL (r := an) d_PW_which_139 (z_or0 _) ?_
                change ab_W _ _ _ G64 140 [some (vR w_), some (vz x), some (vz wh), some (vz an), some (vz (zz + sz_)), some (vz (lk + 1)), some (vz sl), some (vR b3), some (vz 2), some (vz v65), some (vz 0)] [vz an] _
                refine ab_istore_n d_PW_which_140 (Nat.le_of_ble_eq_true rfl) (Nat.le_of_ble_eq_true rfl) rfl ?_
                change ab_W _ _ _ G64 141 [some (vR w_), some (vz x), some (vz wh), some (vz an), some (vz (zz + sz_)), some (vz (lk + 1)), some (vz sl), some (vR b3), some (vz 2), some (vz v65), some (vz 0)] [] _
                refine zz_iinc d_PW_which_141 rfl (Nat.le_of_ble_eq_true rfl) (Nat.le_of_ble_eq_true rfl) rfl ?_
                change ab_W _ _ _ G64 144 [some (vR w_), some (vz x), some (vz wh), some (vz an), some (vz (zz + sz_)), some (vz (lk + 1)), some (vz (sl + 1)), some (vR b3), some (vz 2), some (vz v65), some (vz 0)] [] _
                refine ab_goto (tgt := 11) d_PW_which_144 (by decide) ?_
                refine ab_less (L' := [some (vR w_), some (vz x), some (vz wh), some (vz an), some (vz (zz + sz_)), some (vz (lk + 1)), some (vz (sl + 1)), none, none, none, none]) (fun i v h => by rcases i with _ | _ | _ | _ | _ | _ | _ | _ | _ | _ | _ | i <;> first | exact h | (simp at h)) ?_
                exact ih (sb := (sb + 2003)) (on := on) (nm := nm) (ns := ns) (nt := nt) (SP := SP) (an := an) (zz := (zz + sz_)) (lk := (lk + 1)) (sl := (sl + 1)) (stm := stm) (sts := st273) hw_ hf_spans h17 hf_programs pthI_f_threads pmkI_f_marks pomI_f_oneMind pstI_f_states psuI_f_subject ppgI_0 (by omega) jsp (whI_n jan (by omega) (whT_f (hwW_1 (by omega)) (tlC_f hq93 hmv_ (by omega)))) (by omega) (by omega) (by omega) hol (by first | exact hst9 | exact wlm_s hst9 (by omega) (by omega)) hfr (by omega) hk0
              · refine zz_iconst d_PW_which_118 ?_
                refine ab_goto (tgt := 123) d_PW_which_119 (by decide) ?_
                have ppgI_0 := ppgX_0.cls hr2 ppgB_b3
                refine ab_istore d_PW_which_123 (Nat.le_of_ble_eq_true rfl) (Nat.le_of_ble_eq_true rfl) rfl ?_
                change ab_W _ _ _ G64 125 [some (vR w_), some (vz x), some (vz wh), some (vz an), some (vz (zz + sz_)), some (vz (lk + 1)), some (vz sl), some (vR b3), some (vz 2), some (vz v65), some (vz 1)] [] _
                refine ab_iload_n d_PW_which_125 rfl ?_
                refine ab_iload d_PW_which_126 rfl ?_
                refine zz_if_eq (tgt := 138) d_PW_which_128 (by decide) (by decide) (fun c104 => absurd c104 (by decide)) (fun c104 => ?_)
                refine zz_iconst d_PW_which_131 ?_
                refine ab_iload d_PW_which_132 rfl ?_
                refine zz_shl1 d_PW_which_134 (by omega) ?_
                change ab_W _ _ _ G64 135 [some (vR w_), some (vz x), some (vz wh), some (vz an), some (vz (zz + sz_)), some (vz (lk + 1)), some (vz sl), some (vR b3), some (vz 2), some (vz v65), some (vz 1)] [vz (tw sl), vz an] _
                refine ab_goto (tgt := 139) d_PW_which_135 (by decide) ?_
                refine zz_iortw d_PW_which_139 ?_
                change ab_W _ _ _ G64 140 [some (vR w_), some (vz x), some (vz wh), some (vz an), some (vz (zz + sz_)), some (vz (lk + 1)), some (vz sl), some (vR b3), some (vz 2), some (vz v65), some (vz 1)] [vz (stb an sl)] _
                refine ab_istore_n d_PW_which_140 (Nat.le_of_ble_eq_true rfl) (Nat.le_of_ble_eq_true rfl) rfl ?_
                change ab_W _ _ _ G64 141 [some (vR w_), some (vz x), some (vz wh), some (vz (stb an sl)), some (vz (zz + sz_)), some (vz (lk + 1)), some (vz sl), some (vR b3), some (vz 2), some (vz v65), some (vz 1)] [] _
                refine zz_iinc d_PW_which_141 rfl (Nat.le_of_ble_eq_true rfl) (Nat.le_of_ble_eq_true rfl) rfl ?_
                change ab_W _ _ _ G64 144 [some (vR w_), some (vz x), some (vz wh), some (vz (stb an sl)), some (vz (zz + sz_)), some (vz (lk + 1)), some (vz (sl + 1)), some (vR b3), some (vz 2), some (vz v65), some (vz 1)] [] _
                refine ab_goto (tgt := 11) d_PW_which_144 (by decide) ?_
                refine ab_less (L' := [some (vR w_), some (vz x), some (vz wh), some (vz (stb an sl)), some (vz (zz + sz_)), some (vz (lk + 1)), some (vz (sl + 1)), none, none, none, none]) (fun i v h => by rcases i with _ | _ | _ | _ | _ | _ | _ | _ | _ | _ | _ | i <;> first | exact h | (simp at h)) ?_
                exact ih (sb := (sb + 2003)) (on := on) (nm := nm) (ns := ns) (nt := nt) (SP := SP) (an := (stb an sl)) (zz := (zz + sz_)) (lk := (lk + 1)) (sl := (sl + 1)) (stm := stm) (sts := st273) hw_ hf_spans h17 hf_programs pthI_f_threads pmkI_f_marks pomI_f_oneMind pstI_f_states psuI_f_subject ppgI_0 (by omega) jsp (whI_y jan (by omega) (whT_y hr2 (by omega) (hwW_1 (by omega)) hsu.1 (tlC_t hq93 hmv_ hpm_ (by omega)))) (by omega) (by omega) (by omega) hol (by first | exact hst9 | exact wlm_s hst9 (by omega) (by omega)) hfr (by omega) hk0
            · refine ab_aload_n d_PW_which_90 rfl ?_
              refine ab_aload d_PW_which_91 rfl ?_
              refine ab_iload d_PW_which_93 rfl ?_
              refine zz_iconst d_PW_which_95 ?_
              refine zz_iconst d_PW_which_96 ?_
              refine ab_callV (d' := d - 1) (as := [vR b3, vz 2, vz 0, vz 0]) (st := []) (r := _) (z0_PW_run (o := o) (w_ := w_) (f_ready := f_ready) (f_tape := f_tape) (f_reader := f_reader) (f_programs := f_programs) (f_subject := f_subject) (f_spans := f_spans) (f_threads := f_threads) (f_marks := f_marks) (f_oneMind := f_oneMind) (f_states := f_states) (f_latest := f_latest) (f_matches := f_matches) (f_pieces := f_pieces) (f_template := f_template) (f_result := f_result) (f_spare := f_spare) (cmp := cmp) (ovs := ovs) (q := b3) (lq := (100 + 10 * (Int.toNat sl))) (nr := (NR (Int.toNat sl))) (cv := cv) (on := on) (mi := mi_) (nm := nm) (ns := ns) (n := n) (m := m) (SP := SP) (f := f) (hw := 2) (p := 0) (stm := stm) (sz := sz_) hw_ hf_spans h17 pmkI_f_marks psuI_f_subject ppgB_b3 (by omega) (by omega) jsp (by omega) (by omega) (by omega)) (fun oc G2 h => by rcases h with ⟨_, _, _, _, _, _, h, _⟩ <;> exact ⟨_, h⟩) (by omega) m_PW_run ml_PW_171 im_PW_run se_PW_run c_PW hw_.2.2 (Nat.le_of_ble_eq_true rfl) d_PW_which_97 rfl ?_
              intro v G105 hq
              rcases hq with ⟨o106, nm2107, ns2108, SP2109, r110, s2_111, hv, hfk, hNf_spans, pNmkI_f_marks, pNsuI_f_subject, pNpgB_b3, hq112, hq113, hq114, hq115, hq116, hq117⟩
              cases hv
              have hw_ := hfk.get hw_ (by decide)
              have h17 := hfk.get h17 (by decide)
              have hf_programs := hfk.get hf_programs (by decide)
              have pthI_f_threads := thI.fr hfk pthI_f_threads (by decide) (by decide) (by decide) (by decide) (by decide) (by decide) (by decide) (by decide)
              have pomI_f_oneMind := omI.fr hfk pomI_f_oneMind (by decide) (by decide) (by decide) (by decide) (by decide) (by decide) (by decide) (by decide)
              have ppgX_0 := pgX.fr hfk ppgX_0 (fun xx hx => Or.inl ((show ∀ y ∈ ([31, 44, 45, 46, 47] : List Nat), y < 100 by decide) xx hx))
              have pstI_f_states := stI.fr hfk pstI_f_states (by decide) (by decide) (by decide) (by decide) (by decide) (by decide) (by decide) (by decide) (by decide)
              have pmkI_f_marks := pNmkI_f_marks
              have psuI_f_subject := pNsuI_f_subject
              have ppgB_b3 := pNpgB_b3
              have hfr := hfr.tr hfk (by decide)
              have hq118 := hfk.1
              have hf_spans := hNf_spans
              change ab_W _ _ _ G105 100 [some (vR w_), some (vz x), some (vz wh), some (vz an), some (vz (zz + sz_)), some (vz (lk + 1)), some (vz sl), some (vR b3), some (vz 2), some (vz v65), none] [vz r110] _
              refine zz_iconst d_PW_which_100 ?_
              refine zz_icmp_eq (tgt := 108) d_PW_which_101 (by decide) (by omega) (by decide) (fun c119 => ?_) (fun c119 => ?_)
              · refine zz_iconst d_PW_which_108 ?_
                refine ab_goto (tgt := 123) d_PW_which_109 (by decide) ?_
                have ppgI_0 := ppgX_0.cls hr2 ppgB_b3
                refine ab_istore d_PW_which_123 (Nat.le_of_ble_eq_true rfl) (Nat.le_of_ble_eq_true rfl) rfl ?_
                change ab_W _ _ _ G105 125 [some (vR w_), some (vz x), some (vz wh), some (vz an), some (vz (zz + sz_)), some (vz (lk + 1)), some (vz sl), some (vR b3), some (vz 2), some (vz v65), some (vz 0)] [] _
                refine ab_iload_n d_PW_which_125 rfl ?_
                refine ab_iload d_PW_which_126 rfl ?_
                refine zz_if_eq (tgt := 138) d_PW_which_128 (by decide) (by decide) (fun c120 => ?_) (fun c120 => absurd c120 (by decide))
                refine zz_iconst d_PW_which_138 ?_
                refine zz_iorL (r := an) d_PW_which_139 (z_or0 _) ?_
                change ab_W _ _ _ G105 140 [some (vR w_), some (vz x), some (vz wh), some (vz an), some (vz (zz + sz_)), some (vz (lk + 1)), some (vz sl), some (vR b3), some (vz 2), some (vz v65), some (vz 0)] [vz an] _
                refine ab_istore_n d_PW_which_140 (Nat.le_of_ble_eq_true rfl) (Nat.le_of_ble_eq_true rfl) rfl ?_
                change ab_W _ _ _ G105 141 [some (vR w_), some (vz x), some (vz wh), some (vz an), some (vz (zz + sz_)), some (vz (lk + 1)), some (vz sl), some (vR b3), some (vz 2), some (vz v65), some (vz 0)] [] _
                refine zz_iinc d_PW_which_141 rfl (Nat.le_of_ble_eq_true rfl) (Nat.le_of_ble_eq_true rfl) rfl ?_
                change ab_W _ _ _ G105 144 [some (vR w_), some (vz x), some (vz wh), some (vz an), some (vz (zz + sz_)), some (vz (lk + 1)), some (vz (sl + 1)), some (vR b3), some (vz 2), some (vz v65), some (vz 0)] [] _
                refine ab_goto (tgt := 11) d_PW_which_144 (by decide) ?_
                refine ab_less (L' := [some (vR w_), some (vz x), some (vz wh), some (vz an), some (vz (zz + sz_)), some (vz (lk + 1)), some (vz (sl + 1)), none, none, none, none]) (fun i v h => by rcases i with _ | _ | _ | _ | _ | _ | _ | _ | _ | _ | _ | i <;> first | exact h | (simp at h)) ?_
                exact ih (sb := (sb + 2003)) (on := on) (nm := nm2107) (ns := ns2108) (nt := nt) (SP := SP2109) (an := an) (zz := (zz + sz_)) (lk := (lk + 1)) (sl := (sl + 1)) (stm := s2_111) (sts := st273) hw_ hf_spans h17 hf_programs pthI_f_threads pmkI_f_marks pomI_f_oneMind pstI_f_states psuI_f_subject ppgI_0 (by omega) hq115 (whI_n jan (by omega) (whT_f (hwW_1 (by omega)) (rnX_f hq112 (by omega)))) (by omega) (by omega) (by omega) hol (by first | exact hst9 | exact wlm_s hst9 (by omega) (by omega)) hfr (by omega) hk0
              · refine zz_iconst d_PW_which_104 ?_
                refine ab_goto (tgt := 123) d_PW_which_105 (by decide) ?_
                have ppgI_0 := ppgX_0.cls hr2 ppgB_b3
                refine ab_istore d_PW_which_123 (Nat.le_of_ble_eq_true rfl) (Nat.le_of_ble_eq_true rfl) rfl ?_
                change ab_W _ _ _ G105 125 [some (vR w_), some (vz x), some (vz wh), some (vz an), some (vz (zz + sz_)), some (vz (lk + 1)), some (vz sl), some (vR b3), some (vz 2), some (vz v65), some (vz 1)] [] _
                refine ab_iload_n d_PW_which_125 rfl ?_
                refine ab_iload d_PW_which_126 rfl ?_
                refine zz_if_eq (tgt := 138) d_PW_which_128 (by decide) (by decide) (fun c121 => absurd c121 (by decide)) (fun c121 => ?_)
                refine zz_iconst d_PW_which_131 ?_
                refine ab_iload d_PW_which_132 rfl ?_
                refine zz_shl1 d_PW_which_134 (by omega) ?_
                change ab_W _ _ _ G105 135 [some (vR w_), some (vz x), some (vz wh), some (vz an), some (vz (zz + sz_)), some (vz (lk + 1)), some (vz sl), some (vR b3), some (vz 2), some (vz v65), some (vz 1)] [vz (tw sl), vz an] _
                refine ab_goto (tgt := 139) d_PW_which_135 (by decide) ?_
                refine zz_iortw d_PW_which_139 ?_
                change ab_W _ _ _ G105 140 [some (vR w_), some (vz x), some (vz wh), some (vz an), some (vz (zz + sz_)), some (vz (lk + 1)), some (vz sl), some (vR b3), some (vz 2), some (vz v65), some (vz 1)] [vz (stb an sl)] _
                refine ab_istore_n d_PW_which_140 (Nat.le_of_ble_eq_true rfl) (Nat.le_of_ble_eq_true rfl) rfl ?_
                change ab_W _ _ _ G105 141 [some (vR w_), some (vz x), some (vz wh), some (vz (stb an sl)), some (vz (zz + sz_)), some (vz (lk + 1)), some (vz sl), some (vR b3), some (vz 2), some (vz v65), some (vz 1)] [] _
                refine zz_iinc d_PW_which_141 rfl (Nat.le_of_ble_eq_true rfl) (Nat.le_of_ble_eq_true rfl) rfl ?_
                change ab_W _ _ _ G105 144 [some (vR w_), some (vz x), some (vz wh), some (vz (stb an sl)), some (vz (zz + sz_)), some (vz (lk + 1)), some (vz (sl + 1)), some (vR b3), some (vz 2), some (vz v65), some (vz 1)] [] _
                refine ab_goto (tgt := 11) d_PW_which_144 (by decide) ?_
                refine ab_less (L' := [some (vR w_), some (vz x), some (vz wh), some (vz (stb an sl)), some (vz (zz + sz_)), some (vz (lk + 1)), some (vz (sl + 1)), none, none, none, none]) (fun i v h => by rcases i with _ | _ | _ | _ | _ | _ | _ | _ | _ | _ | _ | i <;> first | exact h | (simp at h)) ?_
                exact ih (sb := (sb + 2003)) (on := on) (nm := nm2107) (ns := ns2108) (nt := nt) (SP := SP2109) (an := (stb an sl)) (zz := (zz + sz_)) (lk := (lk + 1)) (sl := (sl + 1)) (stm := s2_111) (sts := st273) hw_ hf_spans h17 hf_programs pthI_f_threads pmkI_f_marks pomI_f_oneMind pstI_f_states psuI_f_subject ppgI_0 (by omega) hq115 (whI_y jan (by omega) (whT_y hr2 (by omega) (hwW_1 (by omega)) hsu.1 (rnX_t hq112 (by omega)))) (by omega) (by omega) (by omega) hol (by first | exact hst9 | exact wlm_s hst9 (by omega) (by omega)) hfr (by omega) hk0
set_option maxRecDepth 100000 in
set_option maxHeartbeats 4000000 in
theorem z_PW_which {X : ab_X} {d : Nat} {o : Nat → Nat} {G : ab_G} {w_ : Nat} {f_ready : Nat} {f_tape : Nat} {f_reader : Nat} {f_programs : Nat} {f_subject : Nat} {f_spans : Nat} {f_threads : Nat} {f_marks : Nat} {f_oneMind : Nat} {f_states : Nat} {f_latest : Nat} {f_matches : Nat} {f_pieces : Nat} {f_template : Nat} {f_result : Nat} {f_spare : Nat} {cmp : Int} {ovs : Int} {sb : Int} {PG : Nat → Option Nat} {NR : Nat → Nat} {cv : Int → Int} {on : Nat} {nm : Nat} {ns : Nat} {nt : Nat} {n : Int} {m : Nat} {SP : Int → Int} {f : Int → Int} {x : Int} {wh : Int} (hw_ : cc o G w_ 18 (ab_ob 0 [vR f_ready, vR f_tape, vR f_reader, vR f_programs, vR f_subject, vR f_spans, vR f_threads, vR f_marks, vR f_oneMind, vR f_states, vR f_latest, vR f_matches, vR f_pieces, vR f_template, vR f_result, vR f_spare, vz cmp, vz ovs])) (hf_spans : cc o G f_spans 31 (za 20 SP)) (h17 : cc o G 17 17 (za 12 zFC)) (hf_programs : cc o G f_programs 81 (ab_rr 6 PG)) (pthI_f_threads : thI o G f_threads 0) (pmkI_f_marks : mkI o G f_marks nm ns 0) (pomI_f_oneMind : omI o G f_oneMind on nt 0) (pstI_f_states : stI o G f_states cv cmp 0 sb) (psuI_f_subject : suI o G f_subject n m f) (ppgI_0 : pgI o G 0 PG NR cv cmp on) (n18 : ab_n0 = 18) (cwh : 0 ≤ wh ∧ wh ≤ 1) (jsp : rgs SP 20 (-1) 2000) (rc : 64 * G.length + 4600000 ≤ 64 * (ab_n0 + room_1.cells) + (64 * nm + 64 * stC ns + nt + onPQ on)) (rs : ab_slots G + 2360000 ≤ room_1.slots + (zT nm 52026 + stT ns + 2 * nt + onSQ on)) (csb9 : 0 ≤ sb ∧ sb ≤ 1000000000) (hd : 17 ≤ d) : ab_F X d y_PW_which (.code y_PW_which b_PW_which 11 (some (.int))) [vR w_, vz x, vz wh] G (fun oc G2 => ∃ o2 : Nat → Nat, ∃ nm2 : Nat, ∃ ns2 : Nat, ∃ on2 : Nat, ∃ nt2 : Nat, ∃ an2 : Int, ∃ SP2 : Int → Int, ∃ sb2 : Int, oc = .returned (some (vz an2)) ∧ fx o o2 [18, 31, 32, 33, 35, 36, 37, 38, 39, 40, 44, 45, 46, 47, 50, 51, 52, 53, 54, 55, 56, 57, 60, 61, 62, 63, 64, 65, 66, 67, 68, 100, 110, 120, 130, 140, 150] G G2 ∧ cc o2 G2 w_ 18 (ab_ob 0 [vR f_ready, vR f_tape, vR f_reader, vR f_programs, vR f_subject, vR f_spans, vR f_threads, vR f_marks, vR f_oneMind, vR f_states, vR f_latest, vR f_matches, vR f_pieces, vR f_template, vR f_result, vR f_spare, vz cmp, vz ovs]) ∧ cc o2 G2 f_spans 31 (za 20 SP2) ∧ thI o2 G2 f_threads 0 ∧ mkI o2 G2 f_marks nm2 ns2 0 ∧ omI o2 G2 f_oneMind on2 nt2 0 ∧ stI o2 G2 f_states cv cmp 0 sb2 ∧ suI o2 G2 f_subject n m f ∧ pgI o2 G2 0 PG NR cv cmp on2 ∧ (sb2 ≤ sb + 12018 ∧ 0 ≤ sb2) ∧ (whC PG cv f n x wh an2) ∧ (rgs SP2 20 (-1) 2000) ∧ (64 * G2.length + (64 * nm + 64 * stC ns + nt + onPQ on) ≤ 64 * G.length + (64 * nm2 + 64 * stC ns2 + nt2 + onPQ on2)) ∧ (ab_slots G2 + (zT nm 52026 + stT ns + 2 * nt + onSQ on) ≤ ab_slots G + (zT nm2 52026 + stT ns2 + 2 * nt2 + onSQ on2)) ∧ (onL on on2)) := by
  refine ab_F_of (by decide +kernel) (Nat.le_of_ble_eq_true rfl) ?_
  obtain ⟨Q, hQ⟩ : ∃ z : Outcome → ab_G → Prop, z = (fun oc G2 => ∃ o2 : Nat → Nat, ∃ nm2 : Nat, ∃ ns2 : Nat, ∃ on2 : Nat, ∃ nt2 : Nat, ∃ an2 : Int, ∃ SP2 : Int → Int, ∃ sb2 : Int, oc = .returned (some (vz an2)) ∧ fx o o2 [18, 31, 32, 33, 35, 36, 37, 38, 39, 40, 44, 45, 46, 47, 50, 51, 52, 53, 54, 55, 56, 57, 60, 61, 62, 63, 64, 65, 66, 67, 68, 100, 110, 120, 130, 140, 150] G G2 ∧ cc o2 G2 w_ 18 (ab_ob 0 [vR f_ready, vR f_tape, vR f_reader, vR f_programs, vR f_subject, vR f_spans, vR f_threads, vR f_marks, vR f_oneMind, vR f_states, vR f_latest, vR f_matches, vR f_pieces, vR f_template, vR f_result, vR f_spare, vz cmp, vz ovs]) ∧ cc o2 G2 f_spans 31 (za 20 SP2) ∧ thI o2 G2 f_threads 0 ∧ mkI o2 G2 f_marks nm2 ns2 0 ∧ omI o2 G2 f_oneMind on2 nt2 0 ∧ stI o2 G2 f_states cv cmp 0 sb2 ∧ suI o2 G2 f_subject n m f ∧ pgI o2 G2 0 PG NR cv cmp on2 ∧ (sb2 ≤ sb + 12018 ∧ 0 ≤ sb2) ∧ (whC PG cv f n x wh an2) ∧ (rgs SP2 20 (-1) 2000) ∧ (64 * G2.length + (64 * nm + 64 * stC ns + nt + onPQ on) ≤ 64 * G.length + (64 * nm2 + 64 * stC ns2 + nt2 + onPQ on2)) ∧ (ab_slots G2 + (zT nm 52026 + stT ns + 2 * nt + onSQ on) ≤ ab_slots G + (zT nm2 52026 + stT ns2 + 2 * nt2 + onSQ on2)) ∧ (onL on on2)) := ⟨_, rfl⟩
  rw [← hQ]
  change ab_W X (ab_pl y_PW_which b_PW_which 11 (some (.int))) d G 0 [some (vR w_), some (vz x), some (vz wh), none, none, none, none, none, none, none, none] [] Q
  have hfr : fx o o [18, 31, 32, 33, 35, 36, 37, 38, 39, 40, 44, 45, 46, 47, 50, 51, 52, 53, 54, 55, 56, 57, 60, 61, 62, 63, 64, 65, 66, 67, 68, 100, 110, 120, 130, 140, 150] G G := fx.rf
  refine zz_iconst d_PW_which_0 ?_
  refine ab_istore_n d_PW_which_1 (Nat.le_of_ble_eq_true rfl) (Nat.le_of_ble_eq_true rfl) rfl ?_
  change ab_W _ _ _ G 2 [some (vR w_), some (vz x), some (vz wh), some (vz 0), none, none, none, none, none, none, none] [] _
  refine zz_iconst d_PW_which_2 ?_
  refine ab_istore d_PW_which_3 (Nat.le_of_ble_eq_true rfl) (Nat.le_of_ble_eq_true rfl) rfl ?_
  change ab_W _ _ _ G 5 [some (vR w_), some (vz x), some (vz wh), some (vz 0), some (vz 0), none, none, none, none, none, none] [] _
  refine zz_iconst d_PW_which_5 ?_
  refine ab_istore d_PW_which_6 (Nat.le_of_ble_eq_true rfl) (Nat.le_of_ble_eq_true rfl) rfl ?_
  change ab_W _ _ _ G 8 [some (vR w_), some (vz x), some (vz wh), some (vz 0), some (vz 0), some (vz 0), none, none, none, none, none] [] _
  refine zz_iconst d_PW_which_8 ?_
  refine ab_istore d_PW_which_9 (Nat.le_of_ble_eq_true rfl) (Nat.le_of_ble_eq_true rfl) rfl ?_
  change ab_W _ _ _ G 11 [some (vR w_), some (vz x), some (vz wh), some (vz 0), some (vz 0), some (vz 0), some (vz 0), none, none, none, none] [] _
  refine y_PW_which_11 (w_ := w_) (f_ready := f_ready) (f_tape := f_tape) (f_reader := f_reader) (f_programs := f_programs) (f_subject := f_subject) (f_spans := f_spans) (f_threads := f_threads) (f_marks := f_marks) (f_oneMind := f_oneMind) (f_states := f_states) (f_latest := f_latest) (f_matches := f_matches) (f_pieces := f_pieces) (f_template := f_template) (f_result := f_result) (f_spare := f_spare) (cmp := cmp) (ovs := ovs) (PG := PG) (NR := NR) (cv := cv) (n := n) (m := m) (f := f) (s90 := sb) (x := x) (wh := wh) (nm0 := nm) (ns0 := ns) (on0 := on) (nt0 := nt) (G0 := G) (sb := sb) (on := on) (nm := nm) (ns := ns) (nt := nt) (SP := SP) (an := 0) (zz := 0) (lk := 0) (sl := 0) (stm := 0) (sts := 0) (by omega) (by omega) (by omega) (by omega) (by omega) (by omega) (Int.toNat (6 - 0) + 1) hw_ hf_spans h17 hf_programs pthI_f_threads pmkI_f_marks pomI_f_oneMind pstI_f_states psuI_f_subject ppgI_0 (by omega) jsp rfl (by omega) (by omega) (by omega) (Or.inl rfl) (wlm_0 (by omega)) fx.rf (by omega) (fun G1 o2 nm23 ns24 on25 nt26 an27 zz28 lk29 SP210 sm211 ss212 sb213 hNf_spans pNthI_f_threads pNmkI_f_marks pNomI_f_oneMind pNstI_f_states pNsuI_f_subject pNpgI_0 hq14 hq15 hq16 hq17 hq18 hq19 hq20 hq21 hfk => ?_)
  · have hw_ := hfk.get hw_ (by decide)
    have h17 := hfk.get h17 (by decide)
    have hf_programs := hfk.get hf_programs (by decide)
    have hfr := hfr.tr hfk (by decide)
    have hq22 := hfk.1
    have hf_spans := hNf_spans
    have pthI_f_threads := pNthI_f_threads
    have pmkI_f_marks := pNmkI_f_marks
    have pomI_f_oneMind := pNomI_f_oneMind
    have pstI_f_states := pNstI_f_states
    have psuI_f_subject := pNsuI_f_subject
    have ppgI_0 := pNpgI_0
    change ab_W _ _ _ G1 147 [some (vR w_), none, none, some (vz an27), some (vz zz28), some (vz lk29), none, none, none, none, none] [] _
    obtain ⟨by_, co, re, ho, C, Rs, H, mc, hf_subject, hby_, hco, hre, hho, csu, hsu⟩ := psuI_f_subject
    have psuI_f_subject : suI o2 G1 f_subject n m f := ⟨by_, co, re, ho, C, Rs, H, mc, hf_subject, hby_, hco, hre, hho, (by omega), hsu⟩
    refine ab_aload_n d_PW_which_147 rfl ?_
    refine ab_iload d_PW_which_148 rfl ?_
    refine ab_iload d_PW_which_150 rfl ?_
    refine ab_callV (d' := d - 1) (as := [vz zz28, vz lk29]) (st := []) (r := _) (z_PW_settle (o := o2) (w_ := w_) (f_ready := f_ready) (f_tape := f_tape) (f_reader := f_reader) (f_programs := f_programs) (f_subject := f_subject) (f_spans := f_spans) (f_threads := f_threads) (f_marks := f_marks) (f_oneMind := f_oneMind) (f_states := f_states) (f_latest := f_latest) (f_matches := f_matches) (f_pieces := f_pieces) (f_template := f_template) (f_result := f_result) (f_spare := f_spare) (cmp := cmp) (ovs := ovs) (sb := sb213) (cv := cv) (on := on25) (nm := nm23) (ns := ns24) (nt := nt26) (n := n) (m := m) (f := f) (z1 := zz28) (z2 := lk29) (stt := 0) (stm := sm211) (sto := 0) (sts := ss212) hw_ pthI_f_threads pmkI_f_marks pomI_f_oneMind pstI_f_states psuI_f_subject (by omega) (by omega) (wlm_c hq16 (by omega) (by omega) (by omega) (by omega)) (by omega)) (fun oc G2 h => by rcases h with ⟨h, _⟩ <;> exact ⟨_, h⟩) (by omega) m_PW_settle ml_PW_175 im_PW_settle se_PW_settle c_PW hw_.2.2 (Nat.le_of_ble_eq_true rfl) d_PW_which_152 rfl ?_
    intro v G23 hq
    rcases hq with ⟨hv, hfk, hlk, hsk, hNw_, pNthI_f_threads, pNmkI_f_marks, pNomI_f_oneMind, pNstI_f_states, pNsuI_f_subject⟩
    cases hv
    have hf_spans := hfk.get hf_spans (by decide)
    have h17 := hfk.get h17 (by decide)
    have hf_programs := hfk.get hf_programs (by decide)
    have ppgI_0 := pgI.fr hfk ppgI_0  (by decide)
    have pthI_f_threads := pNthI_f_threads
    have pmkI_f_marks := pNmkI_f_marks
    have pomI_f_oneMind := pNomI_f_oneMind
    have pstI_f_states := pNstI_f_states
    have psuI_f_subject := pNsuI_f_subject
    have hfr := hfr.tr hfk (by decide)
    have hq24 := hlk
    have hq25 := hsk
    have hw_ := hNw_
    change ab_W _ _ _ G23 155 [some (vR w_), none, none, some (vz an27), some (vz zz28), some (vz lk29), none, none, none, none, none] [] _
    refine ab_iload_n d_PW_which_155 rfl ?_
    refine zz_iret rfl d_PW_which_156 ?_
    rw [hQ]; exact ⟨_, _, _, _, _, _, _, _, rfl, hfr, hw_, hf_spans, pthI_f_threads, pmkI_f_marks, pomI_f_oneMind, pstI_f_states, psuI_f_subject, ppgI_0, (by omega), (by exact hq15), (by exact hq17), (by omega), (by omega), (by exact hq21)⟩
