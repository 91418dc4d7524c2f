set_option maxRecDepth 100000 in
set_option maxHeartbeats 4000000 in
theorem y_PW_which_11 {X : ab_X} {d : Nat} {Q : Outcome → ab_G → Prop} {o0 : Nat → Nat} {G0 : ab_G} {w_ : Nat} {f_ready : Nat} {f_tape : Nat} {f_reader : Nat} {f_programs : Nat} {f_subject : Nat} {f_spans : Nat} {f_threads : Nat} {f_marks : Nat} {f_oneMind : Nat} {f_states : Nat} {f_latest : Nat} {f_matches : Nat} {f_pieces : Nat} {f_template : Nat} {f_result : Nat} {f_spare : Nat} {cmp : Int} {ovs : Int} {PG : Nat → Option Nat} {NR : Nat → Nat} {cv : Int → Int} {n : Int} {m : Nat} {f : Int → Int} {x : Int} {wh : Int} {nm0 : Nat} {ns0 : Nat} {on0 : Nat} {nt0 : Nat} (n18 : ab_n0 = 18) (cwh : 0 ≤ wh ∧ wh ≤ 1) (rc : 64 * G0.length + 4600000 ≤ 64 * (ab_n0 + room_1.cells) + (64 * nm0 + 64 * stC ns0 + nt0 + onPQ on0)) (rs : ab_slots G0 + 2360000 ≤ room_1.slots + (zT nm0 52026 + stT ns0 + 2 * nt0 + onSQ on0)) (hd : 16 ≤ d) : ∀ (mz : Nat) {G : ab_G} {o : Nat → Nat} {on : Nat} {nm : Nat} {ns : Nat} {nt : Nat} {SP : Int → Int} {an : Int} {zz : Int} {lk : Int} {sl : Int}, (cc o G w_ 18 (ab_ob 0 [vR f_ready, vR f_tape, vR f_reader, vR f_programs, vR f_subject, vR f_spans, vR f_threads, vR f_marks, vR f_oneMind, vR f_states, vR f_latest, vR f_matches, vR f_pieces, vR f_template, vR f_result, vR f_spare, vz cmp, vz ovs])) → (cc o G f_spans 31 (za 20 SP)) → (cc o G 17 17 (za 12 zFC)) → (cc o G f_programs 81 (ab_rr 6 PG)) → (thI o G f_threads) → (mkI o G f_marks nm ns) → (omI o G f_oneMind on nt) → (stI o G f_states cv cmp) → (suI o G f_subject n m f) → (pgI o G 0 PG NR cv cmp on) → (0 ≤ sl ∧ sl ≤ 6 ∧ 0 ≤ zz ∧ zz ≤ 400 * sl ∧ 0 ≤ lk ∧ lk ≤ sl) → (rgs SP 20 (-1) 2000) → (64 * G.length + (64 * nm0 + 64 * stC ns0 + nt0 + onPQ on0) ≤ 64 * G0.length + (64 * nm + 64 * stC ns + nt + onPQ on)) → (ab_slots G + (zT nm0 52026 + stT ns0 + 2 * nt0 + onSQ on0) ≤ ab_slots G0 + (zT nm 52026 + stT ns + 2 * nt + onSQ on)) → (onL on0 on) → (fx o0 o [31, 32, 33, 35, 36, 37, 38, 39, 40, 44, 45, 46, 47, 50, 51, 52, 53, 54, 55, 56, 57, 60, 61, 62, 63, 64, 65, 66, 67, 68, 100, 110, 120, 130, 140, 150] G0 G) → (Int.toNat (6 - sl) < mz) → (∀ (G2 : ab_G) (o2 : Nat → Nat) (nm2 : Nat) (ns2 : Nat) (on2 : Nat) (nt2 : Nat) (an2 : Int) (zz2 : Int) (lk2 : Int) (SP2 : Int → Int), (cc o2 G2 f_spans 31 (za 20 SP2)) → (thI o2 G2 f_threads) → (mkI o2 G2 f_marks nm2 ns2) → (omI o2 G2 f_oneMind on2 nt2) → (stI o2 G2 f_states cv cmp) → (suI o2 G2 f_subject n m f) → (pgI o2 G2 0 PG NR cv cmp on2) → (rgs SP2 20 (-1) 2000) → (0 ≤ zz2 ∧ zz2 ≤ 2400 ∧ 0 ≤ lk2 ∧ lk2 ≤ 6) → (64 * G2.length + (64 * nm0 + 64 * stC ns0 + nt0 + onPQ on0) ≤ 64 * G0.length + (64 * nm2 + 64 * stC ns2 + nt2 + onPQ on2)) → (ab_slots G2 + (zT nm0 52026 + stT ns0 + 2 * nt0 + onSQ on0) ≤ ab_slots G0 + (zT nm2 52026 + stT ns2 + 2 * nt2 + onSQ on2)) → (onL on0 on2) → (fx o0 o2 [31, 32, 33, 35, 36, 37, 38, 39, 40, 44, 45, 46, 47, 50, 51, 52, 53, 54, 55, 56, 57, 60, 61, 62, 63, 64, 65, 66, 67, 68, 100, 110, 120, 130, 140, 150] G0 G2) → ab_W X (ab_pl y_PW_which b_PW_which 11 (some (.int))) d G2 147 [some (vR w_), none, none, some (vz an2), some (vz zz2), some (vz lk2), none, none, none, none, none] [] Q) → ab_W X (ab_pl y_PW_which b_PW_which 11 (some (.int))) d G 11 [some (vR w_), some (vz x), some (vz wh), some (vz an), some (vz zz), some (vz lk), some (vz sl), none, none, none, none] [] Q := by
  intro mz
  induction mz with
  | zero => intro G o on nm ns nt SP an zz lk sl hw_ hf_spans h17 hf_programs pthI_f_threads pmkI_f_marks pomI_f_oneMind pstI_f_states psuI_f_subject ppgI_0 ci jsp hg hs hol hfr hm hk0; exact absurd hm (Nat.not_lt_zero _)
  | succ mz ih =>
    intro G o on nm ns nt SP an zz lk sl hw_ hf_spans h17 hf_programs pthI_f_threads pmkI_f_marks pomI_f_oneMind pstI_f_states psuI_f_subject ppgI_0 ci jsp hg hs hol hfr hm hk0
    refine ab_iload d_PW_which_11 rfl ?_
    refine zz_bipush d_PW_which_13 (by decide) ?_
    refine zz_icmp_ge (tgt := 147) d_PW_which_15 (by decide) (by omega) (by decide) (fun c1 => ?_) (fun c1 => ?_)
    · refine ab_less (L' := [some (vR w_), none, none, some (vz an), some (vz zz), some (vz lk), none, none, none, none, none]) (fun i v h => by rcases i with _ | _ | _ | _ | _ | _ | _ | _ | _ | _ | _ | i <;> first | exact h | (simp at h)) ?_
      exact hk0 _ _ _ _ _ _ _ _ _ _ hf_spans pthI_f_threads pmkI_f_marks pomI_f_oneMind pstI_f_states psuI_f_subject ppgI_0 (by exact jsp) (by omega) (by omega) (by omega) (by exact hol) hfr
    · refine ab_aload_n d_PW_which_18 rfl ?_
      refine ab_getf (fs := [vR f_ready, vR f_tape, vR f_reader, vR f_programs, vR f_subject, vR f_spans, vR f_threads, vR f_marks, vR f_oneMind, vR f_states, vR f_latest, vR f_matches, vR f_pieces, vR f_template, vR f_result, vR f_spare, vz cmp, vz ovs]) f_PW_31 d_PW_which_19 hw_.2.2 rfl ?_
      refine ab_iload d_PW_which_22 rfl ?_
      refine zz_aald d_PW_which_24 hf_programs (by omega) (fun hr2 => ?_) (fun b3 hr2 => ?_)
      · change ab_W _ _ _ G 25 [some (vR w_), some (vz x), some (vz wh), some (vz an), some (vz zz), some (vz lk), some (vz sl), none, none, none, none] [vN] _
        refine ab_astoreN d_PW_which_25 (Nat.le_of_ble_eq_true rfl) (Nat.le_of_ble_eq_true rfl) rfl ?_
        change ab_W _ _ _ G 27 [some (vR w_), some (vz x), some (vz wh), some (vz an), some (vz zz), some (vz lk), some (vz sl), some (vN), none, none, none] [] _
        refine ab_aloadN d_PW_which_27 rfl ?_
        refine ab_ifnullN (tgt := 141) d_PW_which_29 (by decide) ?_
        refine zz_iinc d_PW_which_141 rfl (Nat.le_of_ble_eq_true rfl) (Nat.le_of_ble_eq_true rfl) rfl ?_
        change ab_W _ _ _ G 144 [some (vR w_), some (vz x), some (vz wh), some (vz an), some (vz zz), some (vz lk), some (vz (sl + 1)), some (vN), none, none, none] [] _
        refine ab_goto (tgt := 11) d_PW_which_144 (by decide) ?_
        refine ab_less (L' := [some (vR w_), some (vz x), some (vz wh), some (vz an), some (vz zz), some (vz lk), some (vz (sl + 1)), none, none, none, none]) (fun i v h => by rcases i with _ | _ | _ | _ | _ | _ | _ | _ | _ | _ | _ | i <;> first | exact h | (simp at h)) ?_
        exact ih (on := on) (nm := nm) (ns := ns) (nt := nt) (SP := SP) (an := an) (zz := zz) (lk := lk) (sl := (sl + 1)) hw_ hf_spans h17 hf_programs pthI_f_threads pmkI_f_marks pomI_f_oneMind pstI_f_states psuI_f_subject ppgI_0 (by omega) jsp (by omega) (by omega) hol hfr (by omega) hk0
      · change ab_W _ _ _ G 25 [some (vR w_), some (vz x), some (vz wh), some (vz an), some (vz zz), some (vz lk), some (vz sl), none, none, none, none] [vR b3] _
        refine ab_astore d_PW_which_25 (Nat.le_of_ble_eq_true rfl) (Nat.le_of_ble_eq_true rfl) rfl ?_
        change ab_W _ _ _ G 27 [some (vR w_), some (vz x), some (vz wh), some (vz an), some (vz zz), some (vz lk), some (vz sl), some (vR b3), none, none, none] [] _
        refine ab_aload d_PW_which_27 rfl ?_
        refine ab_ifnull d_PW_which_29 ?_
        refine ab_iload_n d_PW_which_32 rfl ?_
        refine ab_iload d_PW_which_33 rfl ?_
        refine ab_ishr d_PW_which_35 ?_
        refine zz_iconst d_PW_which_36 ?_
        refine ab_iand d_PW_which_37 ?_
        obtain ⟨v4, hv4, ev4⟩ := z_and1 (Int32.ofInt x >>> (Int32.ofInt sl &&& 31))
        refine ab_topi ev4 ?_
        change ab_W _ _ _ G 38 [some (vR w_), some (vz x), some (vz wh), some (vz an), some (vz zz), some (vz lk), some (vz sl), some (vR b3), none, none, none] [vz v4] _
        refine zz_if_eq (tgt := 141) d_PW_which_38 (by decide) (by omega) (fun c5 => ?_) (fun c5 => ?_)
        · refine zz_iinc d_PW_which_141 rfl (Nat.le_of_ble_eq_true rfl) (Nat.le_of_ble_eq_true rfl) rfl ?_
          change ab_W _ _ _ G 144 [some (vR w_), some (vz x), some (vz wh), some (vz an), some (vz zz), some (vz lk), some (vz (sl + 1)), some (vR b3), none, none, none] [] _
          refine ab_goto (tgt := 11) d_PW_which_144 (by decide) ?_
          refine ab_less (L' := [some (vR w_), some (vz x), some (vz wh), some (vz an), some (vz zz), some (vz lk), some (vz (sl + 1)), none, none, none, none]) (fun i v h => by rcases i with _ | _ | _ | _ | _ | _ | _ | _ | _ | _ | _ | i <;> first | exact h | (simp at h)) ?_
          exact ih (on := on) (nm := nm) (ns := ns) (nt := nt) (SP := SP) (an := an) (zz := zz) (lk := lk) (sl := (sl + 1)) hw_ hf_spans h17 hf_programs pthI_f_threads pmkI_f_marks pomI_f_oneMind pstI_f_states psuI_f_subject ppgI_0 (by omega) jsp (by omega) (by omega) hol hfr (by omega) hk0
        · have hk6_ : Int.toNat sl < 6 := by omega
          obtain ⟨⟨mi_, ppgB_b3⟩, ppgX_0⟩ := ppgI_0.opn hk6_ hr2
          refine ab_iload d_PW_which_41 rfl ?_
          obtain ⟨ki_g, ne_g, ot_g, cnt_g, fi_g, la_g, ra_g, ru_g, gr_g, wi_g, sz_g, fl_g, ve_g, na_g, nl_g, K_g, N_g, O_g, RR_g, NA_g, NL_g, hb3, hki_g, hne_g, hot_g, hra_g, hna_g, hnl_g, cq_g, hpu_g, hp_g, hr_g, hch_g, cru_g, ck9_g, cfi_g, cgr_g, cfl_g, hpo_g, hmi_g, hvc_g, cve_g, jnl_g, hiv_g, hmn_g, jna_g⟩ := ppgB_b3
          obtain ⟨by_, co, re, ho, C, Rs, H, mc, hf_subject, hby_, hco, hre, hho, csu, hsu⟩ := psuI_f_subject
          refine ab_aload d_PW_which_43 rfl ?_
          refine ab_getf (fs := [vR ki_g, vR ne_g, vR ot_g, vz cnt_g, vz fi_g, vz la_g, vR ra_g, vz ru_g, vz gr_g, vz wi_g, vz sz_g, vz fl_g, vz ve_g, vz mi_, vR na_g, vR nl_g]) f_PW_152 d_PW_which_45 hb3.2.2 rfl ?_
          refine zz_iadd d_PW_which_48 ?_
          refine ab_istore d_PW_which_49 (Nat.le_of_ble_eq_true rfl) (Nat.le_of_ble_eq_true rfl) rfl ?_
          change ab_W _ _ _ G 51 [some (vR w_), some (vz x), some (vz wh), some (vz an), some (vz (zz + sz_g)), some (vz lk), some (vz sl), some (vR b3), none, none, none] [] _
          refine zz_iinc d_PW_which_51 rfl (Nat.le_of_ble_eq_true rfl) (Nat.le_of_ble_eq_true rfl) rfl ?_
          change ab_W _ _ _ G 54 [some (vR w_), some (vz x), some (vz wh), some (vz an), some (vz (zz + sz_g)), some (vz (lk + 1)), some (vz sl), some (vR b3), none, none, none] [] _
          refine ab_iload_n d_PW_which_54 rfl ?_
          refine zz_if_eq (tgt := 62) d_PW_which_55 (by decide) (by omega) (fun c6 => ?_) (fun c6 => ?_)
          · refine zz_iconst d_PW_which_62 ?_
            refine ab_istore d_PW_which_63 (Nat.le_of_ble_eq_true rfl) (Nat.le_of_ble_eq_true rfl) rfl ?_
            change ab_W _ _ _ G 65 [some (vR w_), some (vz x), some (vz wh), some (vz an), some (vz (zz + sz_g)), some (vz (lk + 1)), some (vz sl), some (vR b3), some (vz 0), none, none] [] _
            refine ab_aload_n d_PW_which_65 rfl ?_
            refine ab_getf (fs := [vR f_ready, vR f_tape, vR f_reader, vR f_programs, vR f_subject, vR f_spans, vR f_threads, vR f_marks, vR f_oneMind, vR f_states, vR f_latest, vR f_matches, vR f_pieces, vR f_template, vR f_result, vR f_spare, vz cmp, vz ovs]) f_PW_69 d_PW_which_66 hw_.2.2 rfl ?_
            refine ab_aload d_PW_which_69 rfl ?_
            refine ab_aload_n d_PW_which_71 rfl ?_
            refine ab_getf (fs := [vR f_ready, vR f_tape, vR f_reader, vR f_programs, vR f_subject, vR f_spans, vR f_threads, vR f_marks, vR f_oneMind, vR f_states, vR f_latest, vR f_matches, vR f_pieces, vR f_template, vR f_result, vR f_spare, vz cmp, vz ovs]) f_PW_38 d_PW_which_72 hw_.2.2 rfl ?_
            refine ab_iload d_PW_which_75 rfl ?_
            refine zz_iconst d_PW_which_77 ?_
            obtain ⟨cu_s, eg_s, po_s, bg_s, bd_s, sd_s, se__s, stk_s, mst_s, q0_s, vr_s, ro_s, cn_s, ct_s, sc_s, sta_s, arv_s, stp_s, CU_s, EG_s, PO_s, BG_s, BD_s, SD_s, SE_s, SK_s, hf_states, hcu_s, heg_s, hpo_s, hbg_s, hbd_s, hsd_s, hse__s, hstk_s, jcu_s, ccn_s, cms_s, cvr_s, jbg_s, jpo_s, jbd_s, jeg_s, cro_s⟩ := pstI_f_states
            refine ab_callV (d' := d - 1) (as := [vR b3, vR f_subject, vz 0, vz 0]) (st := []) (r := _) (z_ST_tell (o := o) (a := f_states) (cu := cu_s) (eg := eg_s) (po := po_s) (bg := bg_s) (bd := bd_s) (sd := sd_s) (se_ := se__s) (stk := stk_s) (mst := mst_s) (q0 := q0_s) (vr := vr_s) (ro := ro_s) (cn := cn_s) (ct := ct_s) (sc := sc_s) (sta := sta_s) (arv := arv_s) (stp := stp_s) (CU := CU_s) (EG := EG_s) (PO := PO_s) (BG := BG_s) (BD := BD_s) (SD := SD_s) (SE := SE_s) (SK := SK_s) (q := b3) (lq := (100 + 10 * (Int.toNat sl))) (ki := ki_g) (ne := ne_g) (ot := ot_g) (cnt := cnt_g) (fi := fi_g) (la := la_g) (ra := ra_g) (ru := ru_g) (gr := gr_g) (wi := wi_g) (sz := sz_g) (fl := fl_g) (ve := ve_g) (mi := mi_) (na := na_g) (nl := nl_g) (K := K_g) (N := N_g) (O := O_g) (RR := RR_g) (nr := (NR (Int.toNat sl))) (s := f_subject) (by_ := by_) (co := co) (re := re) (ho := ho) (n := n) (f := f) (C := C) (Rs := Rs) (m := m) (mc := mc) (p := 0) (hw := 0) (vc := (cv vr_s)) hf_states hcu_s heg_s hpo_s hbg_s hbd_s hsd_s hse__s hstk_s h17 hb3 hki_g hne_g hot_g hra_g hf_subject hby_ hco hre (by omega) hp_g hr_g (by omega) hch_g jcu_s (by omega) (by omega) (by omega) (fun h => by rw [h]; exact hvc_g) jbg_s jpo_s jeg_s jbd_s (by omega) (by omega) (by omega) hsu hsu.1 (by omega) (by omega) (by omega) (by omega) (by omega)) (fun oc G2 h => by rcases h with ⟨_, _, _, _, _, _, _, _, _, _, _, _, _, _, _, _, _, h, _⟩ <;> exact ⟨_, h⟩) (by omega) m_ST_tell ml_PW_224 im_ST_tell se_ST_tell c_ST hf_states.2.2 (Nat.le_of_ble_eq_true rfl) d_PW_which_78 rfl ?_
            intro v G7 hq
            rcases hq with ⟨v8, vr29, cn210, ro211, CU212, ct213, sc214, sta215, st216, ar217, EG218, PO219, BG220, BD221, SD222, SE223, SK224, hv, hfk, hlk, hsk, hNf_states, hNcu_s, hNeg_s, hNpo_s, hNbg_s, hNbd_s, hNsd_s, hNse__s, hNstk_s, hq25, hq26, hq27, hq28, hq29, hq30, hq31, hq32⟩
            cases hv
            have hw_ := hfk.get hw_ (by decide)
            have hf_spans := hfk.get hf_spans (by decide)
            have h17 := hfk.get h17 (by decide)
            have hf_programs := hfk.get hf_programs (by decide)
            have hb3 := hfk.get hb3 (by simp only [List.mem_cons, List.not_mem_nil, or_false]; omega)
            have hki_g := hfk.get hki_g (by simp only [List.mem_cons, List.not_mem_nil, or_false]; omega)
            have hne_g := hfk.get hne_g (by simp only [List.mem_cons, List.not_mem_nil, or_false]; omega)
            have hot_g := hfk.get hot_g (by simp only [List.mem_cons, List.not_mem_nil, or_false]; omega)
            have hra_g := hfk.get hra_g (by simp only [List.mem_cons, List.not_mem_nil, or_false]; omega)
            have hna_g := hfk.get hna_g (by simp only [List.mem_cons, List.not_mem_nil, or_false]; omega)
            have hnl_g := hfk.get hnl_g (by simp only [List.mem_cons, List.not_mem_nil, or_false]; omega)
            have hf_subject := hfk.get hf_subject (by decide)
            have hby_ := hfk.get hby_ (by decide)
            have hco := hfk.get hco (by decide)
            have hre := hfk.get hre (by decide)
            have hho := hfk.get hho (by decide)
            have pthI_f_threads := thI.fr hfk pthI_f_threads (by decide) (by decide) (by decide) (by decide) (by decide) (by decide) (by decide) (by decide)
            have pmkI_f_marks := mkI.fr hfk pmkI_f_marks (by decide) (by decide) (by decide) (by decide)
            have pomI_f_oneMind := omI.fr hfk pomI_f_oneMind (by decide) (by decide) (by decide) (by decide) (by decide) (by decide) (by decide) (by decide)
            have ppgX_0 := pgX.fr hfk ppgX_0 (fun xx hx => Or.inl ((show ∀ y ∈ ([60, 61, 62, 63, 64, 65, 66, 67, 68] : List Nat), y < 100 by decide) xx hx))
            have hfr := hfr.tr hfk (by decide)
            have hq33 := hlk
            have hq34 := hsk
            have hf_states := hNf_states
            have hcu_s := hNcu_s
            have heg_s := hNeg_s
            have hpo_s := hNpo_s
            have hbg_s := hNbg_s
            have hbd_s := hNbd_s
            have hsd_s := hNsd_s
            have hse__s := hNse__s
            have hstk_s := hNstk_s
            change ab_W _ _ _ G7 81 [some (vR w_), some (vz x), some (vz wh), some (vz an), some (vz (zz + sz_g)), some (vz (lk + 1)), some (vz sl), some (vR b3), some (vz 0), none, none] [vz v8] _
            have pstI_f_states : stI o G7 f_states cv cmp := ⟨cu_s, eg_s, po_s, bg_s, bd_s, sd_s, se__s, stk_s, mst_s, vR b3, vr29, ro211, cn210, ct213, sc214, sta215, ar217, st216, CU212, EG218, PO219, BG220, BD221, SD222, SE223, SK224, hf_states, hcu_s, heg_s, hpo_s, hbg_s, hbd_s, hsd_s, hse__s, hstk_s, hq31, (by omega), (by omega), (by omega), hq26, (by rw [show vr29 = ve_g by omega, hvc_g]; exact hq27), hq28, hq29, (by omega)⟩
            have hmq_ : onq mi_ on := hmi_g
            have ppgB_b3 : pgB o G7 b3 (100 + 10 * (Int.toNat sl)) (NR (Int.toNat sl)) cv cmp on mi_ := ⟨ki_g, ne_g, ot_g, cnt_g, fi_g, la_g, ra_g, ru_g, gr_g, wi_g, sz_g, fl_g, ve_g, na_g, nl_g, K_g, N_g, O_g, RR_g, NA_g, NL_g, hb3, hki_g, hne_g, hot_g, hra_g, hna_g, hnl_g, (by omega), hpu_g, hp_g, hr_g, hch_g, (by omega), (by omega), (by omega), (by omega), (by omega), hpo_g, hmq_, (by omega), (by omega), jnl_g, hiv_g, hmn_g, jna_g⟩
            have psuI_f_subject : suI o G7 f_subject n m f := ⟨by_, co, re, ho, C, Rs, H, mc, hf_subject, hby_, hco, hre, hho, (by omega), hsu⟩
            refine ab_istore d_PW_which_81 (Nat.le_of_ble_eq_true rfl) (Nat.le_of_ble_eq_true rfl) rfl ?_
            change ab_W _ _ _ G7 83 [some (vR w_), some (vz x), some (vz wh), some (vz an), some (vz (zz + sz_g)), some (vz (lk + 1)), some (vz sl), some (vR b3), some (vz 0), some (vz v8), none] [] _
            refine ab_iload d_PW_which_83 rfl ?_
            refine zz_bipush d_PW_which_85 (by decide) ?_
            refine zz_icmp_ne (tgt := 112) d_PW_which_87 (by decide) (by omega) (by decide) (fun c35 => ?_) (fun c35 => ?_)
            · refine ab_iload d_PW_which_112 rfl ?_
              refine zz_iconst d_PW_which_114 ?_
              refine zz_icmp_ne (tgt := 122) d_PW_which_115 (by decide) (by omega) (by decide) (fun c36 => ?_) (fun c36 => ?_)
              · refine zz_iconst d_PW_which_122 ?_
                have ppgI_0 := ppgX_0.cls hr2 ppgB_b3
                refine ab_istore d_PW_which_123 (Nat.le_of_ble_eq_true rfl) (Nat.le_of_ble_eq_true rfl) rfl ?_
                change ab_W _ _ _ G7 125 [some (vR w_), some (vz x), some (vz wh), some (vz an), some (vz (zz + sz_g)), some (vz (lk + 1)), some (vz sl), some (vR b3), some (vz 0), some (vz v8), some (vz 0)] [] _
                refine ab_iload_n d_PW_which_125 rfl ?_
                refine ab_iload d_PW_which_126 rfl ?_
                refine zz_if_eq (tgt := 138) d_PW_which_128 (by decide) (by decide) (fun c37 => ?_) (fun c37 => absurd c37 (by decide))
                refine zz_iconst d_PW_which_138 ?_
                refine ab_ior d_PW_which_139 ?_
                obtain ⟨v38, hv38, ev38⟩ := z_ex (Int32.ofInt an ||| Int32.ofInt 0)
                refine ab_topi ev38 ?_
                change ab_W _ _ _ G7 140 [some (vR w_), some (vz x), some (vz wh), some (vz an), some (vz (zz + sz_g)), some (vz (lk + 1)), some (vz sl), some (vR b3), some (vz 0), some (vz v8), some (vz 0)] [vz v38] _
                refine ab_istore_n d_PW_which_140 (Nat.le_of_ble_eq_true rfl) (Nat.le_of_ble_eq_true rfl) rfl ?_
                change ab_W _ _ _ G7 141 [some (vR w_), some (vz x), some (vz wh), some (vz v38), some (vz (zz + sz_g)), some (vz (lk + 1)), some (vz sl), some (vR b3), some (vz 0), some (vz v8), some (vz 0)] [] _
                refine zz_iinc d_PW_which_141 rfl (Nat.le_of_ble_eq_true rfl) (Nat.le_of_ble_eq_true rfl) rfl ?_
                change ab_W _ _ _ G7 144 [some (vR w_), some (vz x), some (vz wh), some (vz v38), some (vz (zz + sz_g)), some (vz (lk + 1)), some (vz (sl + 1)), some (vR b3), some (vz 0), some (vz v8), some (vz 0)] [] _
                refine ab_goto (tgt := 11) d_PW_which_144 (by decide) ?_
                refine ab_less (L' := [some (vR w_), some (vz x), some (vz wh), some (vz v38), some (vz (zz + sz_g)), some (vz (lk + 1)), some (vz (sl + 1)), none, none, none, none]) (fun i v h => by rcases i with _ | _ | _ | _ | _ | _ | _ | _ | _ | _ | _ | i <;> first | exact h | (simp at h)) ?_
                exact ih (on := on) (nm := nm) (ns := ns) (nt := nt) (SP := SP) (an := v38) (zz := (zz + sz_g)) (lk := (lk + 1)) (sl := (sl + 1)) hw_ hf_spans h17 hf_programs pthI_f_threads pmkI_f_marks pomI_f_oneMind pstI_f_states psuI_f_subject ppgI_0 (by omega) jsp (by omega) (by omega) hol hfr (by omega) hk0
              · refine zz_iconst d_PW_which_118 ?_
                refine ab_goto (tgt := 123) d_PW_which_119 (by decide) ?_
                have ppgI_0 := ppgX_0.cls hr2 ppgB_b3
                refine ab_istore d_PW_which_123 (Nat.le_of_ble_eq_true rfl) (Nat.le_of_ble_eq_true rfl) rfl ?_
                change ab_W _ _ _ G7 125 [some (vR w_), some (vz x), some (vz wh), some (vz an), some (vz (zz + sz_g)), some (vz (lk + 1)), some (vz sl), some (vR b3), some (vz 0), some (vz v8), some (vz 1)] [] _
                refine ab_iload_n d_PW_which_125 rfl ?_
                refine ab_iload d_PW_which_126 rfl ?_
                refine zz_if_eq (tgt := 138) d_PW_which_128 (by decide) (by decide) (fun c39 => absurd c39 (by decide)) (fun c39 => ?_)
                refine zz_iconst d_PW_which_131 ?_
                refine ab_iload d_PW_which_132 rfl ?_
                refine zz_shl1 d_PW_which_134 (by omega) ?_
                change ab_W _ _ _ G7 135 [some (vR w_), some (vz x), some (vz wh), some (vz an), some (vz (zz + sz_g)), some (vz (lk + 1)), some (vz sl), some (vR b3), some (vz 0), some (vz v8), some (vz 1)] [vz (tw sl), vz an] _
                refine ab_goto (tgt := 139) d_PW_which_135 (by decide) ?_
                refine ab_ior d_PW_which_139 ?_
                obtain ⟨v40, hv40, ev40⟩ := z_ex (Int32.ofInt an ||| Int32.ofInt (tw sl))
                refine ab_topi ev40 ?_
                change ab_W _ _ _ G7 140 [some (vR w_), some (vz x), some (vz wh), some (vz an), some (vz (zz + sz_g)), some (vz (lk + 1)), some (vz sl), some (vR b3), some (vz 0), some (vz v8), some (vz 1)] [vz v40] _
                refine ab_istore_n d_PW_which_140 (Nat.le_of_ble_eq_true rfl) (Nat.le_of_ble_eq_true rfl) rfl ?_
                change ab_W _ _ _ G7 141 [some (vR w_), some (vz x), some (vz wh), some (vz v40), some (vz (zz + sz_g)), some (vz (lk + 1)), some (vz sl), some (vR b3), some (vz 0), some (vz v8), some (vz 1)] [] _
                refine zz_iinc d_PW_which_141 rfl (Nat.le_of_ble_eq_true rfl) (Nat.le_of_ble_eq_true rfl) rfl ?_
                change ab_W _ _ _ G7 144 [some (vR w_), some (vz x), some (vz wh), some (vz v40), some (vz (zz + sz_g)), some (vz (lk + 1)), some (vz (sl + 1)), some (vR b3), some (vz 0), some (vz v8), some (vz 1)] [] _
                refine ab_goto (tgt := 11) d_PW_which_144 (by decide) ?_
                refine ab_less (L' := [some (vR w_), some (vz x), some (vz wh), some (vz v40), some (vz (zz + sz_g)), some (vz (lk + 1)), some (vz (sl + 1)), none, none, none, none]) (fun i v h => by rcases i with _ | _ | _ | _ | _ | _ | _ | _ | _ | _ | _ | i <;> first | exact h | (simp at h)) ?_
                exact ih (on := on) (nm := nm) (ns := ns) (nt := nt) (SP := SP) (an := v40) (zz := (zz + sz_g)) (lk := (lk + 1)) (sl := (sl + 1)) hw_ hf_spans h17 hf_programs pthI_f_threads pmkI_f_marks pomI_f_oneMind pstI_f_states psuI_f_subject ppgI_0 (by omega) jsp (by omega) (by omega) hol hfr (by omega) hk0
            · refine ab_aload_n d_PW_which_90 rfl ?_
              refine ab_aload d_PW_which_91 rfl ?_
              refine ab_iload d_PW_which_93 rfl ?_
              refine zz_iconst d_PW_which_95 ?_
              refine zz_iconst d_PW_which_96 ?_
              refine ab_callV (d' := d - 1) (as := [vR b3, vz 0, vz 0, vz 0]) (st := []) (r := _) (z_PW_run (o := o) (w_ := w_) (f_ready := f_ready) (f_tape := f_tape) (f_reader := f_reader) (f_programs := f_programs) (f_subject := f_subject) (f_spans := f_spans) (f_threads := f_threads) (f_marks := f_marks) (f_oneMind := f_oneMind) (f_states := f_states) (f_latest := f_latest) (f_matches := f_matches) (f_pieces := f_pieces) (f_template := f_template) (f_result := f_result) (f_spare := f_spare) (cmp := cmp) (ovs := ovs) (q := b3) (lq := (100 + 10 * (Int.toNat sl))) (nr := (NR (Int.toNat sl))) (cv := cv) (on := on) (mi := mi_) (nm := nm) (ns := ns) (nt := nt) (n := n) (m := m) (SP := SP) (f := f) (hw := 0) (mch := 0) (p := 0) hw_ hf_spans h17 pthI_f_threads pmkI_f_marks pomI_f_oneMind pstI_f_states psuI_f_subject ppgB_b3 (by omega) (by omega) jsp (by omega) (by omega) (by omega)) (fun oc G2 h => by rcases h with ⟨_, _, _, _, _, _, _, _, h, _⟩ <;> exact ⟨_, h⟩) (by omega) m_PW_run ml_PW_171 im_PW_run se_PW_run c_PW hw_.2.2 (Nat.le_of_ble_eq_true rfl) d_PW_which_97 rfl ?_
              intro v G41 hq
              rcases hq with ⟨o42, nm243, ns244, on245, nt246, mi247, SP248, r49, hv, hfk, hNf_spans, pNthI_f_threads, pNmkI_f_marks, pNomI_f_oneMind, pNstI_f_states, pNsuI_f_subject, pNpgB_b3, hq50, hq51, hq52, hq53, hq54⟩
              cases hv
              have hw_ := hfk.get hw_ (by simp only [List.mem_cons, List.not_mem_nil, or_false]; omega)
              have h17 := hfk.get h17 (by simp only [List.mem_cons, List.not_mem_nil, or_false]; omega)
              have hf_programs := hfk.get hf_programs (by simp only [List.mem_cons, List.not_mem_nil, or_false]; omega)
              have ppgX_0 := pgX.fr hfk ppgX_0  (by intro xx hx; simp only [List.mem_cons, List.not_mem_nil, or_false] at hx; omega)
              have pthI_f_threads := pNthI_f_threads
              have pmkI_f_marks := pNmkI_f_marks
              have pomI_f_oneMind := pNomI_f_oneMind
              have pstI_f_states := pNstI_f_states
              have psuI_f_subject := pNsuI_f_subject
              have ppgB_b3 := pNpgB_b3
              have hfr := hfr.tr hfk (sub6 (A := [31, 32, 33, 35, 36, 37, 38, 39, 40, 44, 45, 46, 47, 50, 51, 52, 53, 54, 55, 56, 57, 60, 61, 62, 63, 64, 65, 66, 67, 68]) (k := (Int.toNat sl)) (by omega))
              have hq55 := hfk.1
              have hf_spans := hNf_spans
              change ab_W _ _ _ G41 100 [some (vR w_), some (vz x), some (vz wh), some (vz an), some (vz (zz + sz_g)), some (vz (lk + 1)), some (vz sl), some (vR b3), some (vz 0), some (vz v8), none] [vz r49] _
              have ppgX_0 := ppgX_0.ong hq54
              refine zz_iconst d_PW_which_100 ?_
              refine zz_icmp_eq (tgt := 108) d_PW_which_101 (by decide) (by omega) (by decide) (fun c56 => ?_) (fun c56 => ?_)
              · refine zz_iconst d_PW_which_108 ?_
                refine ab_goto (tgt := 123) d_PW_which_109 (by decide) ?_
                have ppgI_0 := ppgX_0.cls hr2 ppgB_b3
                refine ab_istore d_PW_which_123 (Nat.le_of_ble_eq_true rfl) (Nat.le_of_ble_eq_true rfl) rfl ?_
                change ab_W _ _ _ G41 125 [some (vR w_), some (vz x), some (vz wh), some (vz an), some (vz (zz + sz_g)), some (vz (lk + 1)), some (vz sl), some (vR b3), some (vz 0), some (vz v8), some (vz 0)] [] _
                refine ab_iload_n d_PW_which_125 rfl ?_
                refine ab_iload d_PW_which_126 rfl ?_
                refine zz_if_eq (tgt := 138) d_PW_which_128 (by decide) (by decide) (fun c57 => ?_) (fun c57 => absurd c57 (by decide))
                refine zz_iconst d_PW_which_138 ?_
                refine ab_ior d_PW_which_139 ?_
                obtain ⟨v58, hv58, ev58⟩ := z_ex (Int32.ofInt an ||| Int32.ofInt 0)
                refine ab_topi ev58 ?_
                change ab_W _ _ _ G41 140 [some (vR w_), some (vz x), some (vz wh), some (vz an), some (vz (zz + sz_g)), some (vz (lk + 1)), some (vz sl), some (vR b3), some (vz 0), some (vz v8), some (vz 0)] [vz v58] _
                refine ab_istore_n d_PW_which_140 (Nat.le_of_ble_eq_true rfl) (Nat.le_of_ble_eq_true rfl) rfl ?_
                change ab_W _ _ _ G41 141 [some (vR w_), some (vz x), some (vz wh), some (vz v58), some (vz (zz + sz_g)), some (vz (lk + 1)), some (vz sl), some (vR b3), some (vz 0), some (vz v8), some (vz 0)] [] _
                refine zz_iinc d_PW_which_141 rfl (Nat.le_of_ble_eq_true rfl) (Nat.le_of_ble_eq_true rfl) rfl ?_
                change ab_W _ _ _ G41 144 [some (vR w_), some (vz x), some (vz wh), some (vz v58), some (vz (zz + sz_g)), some (vz (lk + 1)), some (vz (sl + 1)), some (vR b3), some (vz 0), some (vz v8), some (vz 0)] [] _
                refine ab_goto (tgt := 11) d_PW_which_144 (by decide) ?_
                refine ab_less (L' := [some (vR w_), some (vz x), some (vz wh), some (vz v58), some (vz (zz + sz_g)), some (vz (lk + 1)), some (vz (sl + 1)), none, none, none, none]) (fun i v h => by rcases i with _ | _ | _ | _ | _ | _ | _ | _ | _ | _ | _ | i <;> first | exact h | (simp at h)) ?_
                exact ih (on := on245) (nm := nm243) (ns := ns244) (nt := nt246) (SP := SP248) (an := v58) (zz := (zz + sz_g)) (lk := (lk + 1)) (sl := (sl + 1)) hw_ hf_spans h17 hf_programs pthI_f_threads pmkI_f_marks pomI_f_oneMind pstI_f_states psuI_f_subject ppgI_0 (by omega) hq51 (by omega) (by omega) (onL_tr hol hq54) hfr (by omega) hk0
              · refine zz_iconst d_PW_which_104 ?_
                refine ab_goto (tgt := 123) d_PW_which_105 (by decide) ?_
                have ppgI_0 := ppgX_0.cls hr2 ppgB_b3
                refine ab_istore d_PW_which_123 (Nat.le_of_ble_eq_true rfl) (Nat.le_of_ble_eq_true rfl) rfl ?_
                change ab_W _ _ _ G41 125 [some (vR w_), some (vz x), some (vz wh), some (vz an), some (vz (zz + sz_g)), some (vz (lk + 1)), some (vz sl), some (vR b3), some (vz 0), some (vz v8), some (vz 1)] [] _
                refine ab_iload_n d_PW_which_125 rfl ?_
                refine ab_iload d_PW_which_126 rfl ?_
                refine zz_if_eq (tgt := 138) d_PW_which_128 (by decide) (by decide) (fun c59 => absurd c59 (by decide)) (fun c59 => ?_)
                refine zz_iconst d_PW_which_131 ?_
                refine ab_iload d_PW_which_132 rfl ?_
                refine zz_shl1 d_PW_which_134 (by omega) ?_
                change ab_W _ _ _ G41 135 [some (vR w_), some (vz x), some (vz wh), some (vz an), some (vz (zz + sz_g)), some (vz (lk + 1)), some (vz sl), some (vR b3), some (vz 0), some (vz v8), some (vz 1)] [vz (tw sl), vz an] _
                refine ab_goto (tgt := 139) d_PW_which_135 (by decide) ?_
                refine ab_ior d_PW_which_139 ?_
                obtain ⟨v60, hv60, ev60⟩ := z_ex (Int32.ofInt an ||| Int32.ofInt (tw sl))
                refine ab_topi ev60 ?_
                change ab_W _ _ _ G41 140 [some (vR w_), some (vz x), some (vz wh), some (vz an), some (vz (zz + sz_g)), some (vz (lk + 1)), some (vz sl), some (vR b3), some (vz 0), some (vz v8), some (vz 1)] [vz v60] _
                refine ab_istore_n d_PW_which_140 (Nat.le_of_ble_eq_true rfl) (Nat.le_of_ble_eq_true rfl) rfl ?_
                change ab_W _ _ _ G41 141 [some (vR w_), some (vz x), some (vz wh), some (vz v60), some (vz (zz + sz_g)), some (vz (lk + 1)), some (vz sl), some (vR b3), some (vz 0), some (vz v8), some (vz 1)] [] _
                refine zz_iinc d_PW_which_141 rfl (Nat.le_of_ble_eq_true rfl) (Nat.le_of_ble_eq_true rfl) rfl ?_
                change ab_W _ _ _ G41 144 [some (vR w_), some (vz x), some (vz wh), some (vz v60), some (vz (zz + sz_g)), some (vz (lk + 1)), some (vz (sl + 1)), some (vR b3), some (vz 0), some (vz v8), some (vz 1)] [] _
                refine ab_goto (tgt := 11) d_PW_which_144 (by decide) ?_
                refine ab_less (L' := [some (vR w_), some (vz x), some (vz wh), some (vz v60), some (vz (zz + sz_g)), some (vz (lk + 1)), some (vz (sl + 1)), none, none, none, none]) (fun i v h => by rcases i with _ | _ | _ | _ | _ | _ | _ | _ | _ | _ | _ | i <;> first | exact h | (simp at h)) ?_
                exact ih (on := on245) (nm := nm243) (ns := ns244) (nt := nt246) (SP := SP248) (an := v60) (zz := (zz + sz_g)) (lk := (lk + 1)) (sl := (sl + 1)) hw_ hf_spans h17 hf_programs pthI_f_threads pmkI_f_marks pomI_f_oneMind pstI_f_states psuI_f_subject ppgI_0 (by omega) hq51 (by omega) (by omega) (onL_tr hol hq54) hfr (by omega) hk0
          · refine zz_iconst d_PW_which_58 ?_
            refine ab_goto (tgt := 63) d_PW_which_59 (by decide) ?_
            refine ab_istore d_PW_which_63 (Nat.le_of_ble_eq_true rfl) (Nat.le_of_ble_eq_true rfl) rfl ?_
            change ab_W _ _ _ G 65 [some (vR w_), some (vz x), some (vz wh), some (vz an), some (vz (zz + sz_g)), some (vz (lk + 1)), some (vz sl), some (vR b3), some (vz 2), none, none] [] _
            refine ab_aload_n d_PW_which_65 rfl ?_
            refine ab_getf (fs := [vR f_ready, vR f_tape, vR f_reader, vR f_programs, vR f_subject, vR f_spans, vR f_threads, vR f_marks, vR f_oneMind, vR f_states, vR f_latest, vR f_matches, vR f_pieces, vR f_template, vR f_result, vR f_spare, vz cmp, vz ovs]) f_PW_69 d_PW_which_66 hw_.2.2 rfl ?_
            refine ab_aload d_PW_which_69 rfl ?_
            refine ab_aload_n d_PW_which_71 rfl ?_
            refine ab_getf (fs := [vR f_ready, vR f_tape, vR f_reader, vR f_programs, vR f_subject, vR f_spans, vR f_threads, vR f_marks, vR f_oneMind, vR f_states, vR f_latest, vR f_matches, vR f_pieces, vR f_template, vR f_result, vR f_spare, vz cmp, vz ovs]) f_PW_38 d_PW_which_72 hw_.2.2 rfl ?_
            refine ab_iload d_PW_which_75 rfl ?_
            refine zz_iconst d_PW_which_77 ?_
            obtain ⟨cu_s, eg_s, po_s, bg_s, bd_s, sd_s, se__s, stk_s, mst_s, q0_s, vr_s, ro_s, cn_s, ct_s, sc_s, sta_s, arv_s, stp_s, CU_s, EG_s, PO_s, BG_s, BD_s, SD_s, SE_s, SK_s, hf_states, hcu_s, heg_s, hpo_s, hbg_s, hbd_s, hsd_s, hse__s, hstk_s, jcu_s, ccn_s, cms_s, cvr_s, jbg_s, jpo_s, jbd_s, jeg_s, cro_s⟩ := pstI_f_states
            refine ab_callV (d' := d - 1) (as := [vR b3, vR f_subject, vz 2, vz 0]) (st := []) (r := _) (z_ST_tell (o := o) (a := f_states) (cu := cu_s) (eg := eg_s) (po := po_s) (bg := bg_s) (bd := bd_s) (sd := sd_s) (se_ := se__s) (stk := stk_s) (mst := mst_s) (q0 := q0_s) (vr := vr_s) (ro := ro_s) (cn := cn_s) (ct := ct_s) (sc := sc_s) (sta := sta_s) (arv := arv_s) (stp := stp_s) (CU := CU_s) (EG := EG_s) (PO := PO_s) (BG := BG_s) (BD := BD_s) (SD := SD_s) (SE := SE_s) (SK := SK_s) (q := b3) (lq := (100 + 10 * (Int.toNat sl))) (ki := ki_g) (ne := ne_g) (ot := ot_g) (cnt := cnt_g) (fi := fi_g) (la := la_g) (ra := ra_g) (ru := ru_g) (gr := gr_g) (wi := wi_g) (sz := sz_g) (fl := fl_g) (ve := ve_g) (mi := mi_) (na := na_g) (nl := nl_g) (K := K_g) (N := N_g) (O := O_g) (RR := RR_g) (nr := (NR (Int.toNat sl))) (s := f_subject) (by_ := by_) (co := co) (re := re) (ho := ho) (n := n) (f := f) (C := C) (Rs := Rs) (m := m) (mc := mc) (p := 0) (hw := 2) (vc := (cv vr_s)) hf_states hcu_s heg_s hpo_s hbg_s hbd_s hsd_s hse__s hstk_s h17 hb3 hki_g hne_g hot_g hra_g hf_subject hby_ hco hre (by omega) hp_g hr_g (by omega) hch_g jcu_s (by omega) (by omega) (by omega) (fun h => by rw [h]; exact hvc_g) jbg_s jpo_s jeg_s jbd_s (by omega) (by omega) (by omega) hsu hsu.1 (by omega) (by omega) (by omega) (by omega) (by omega)) (fun oc G2 h => by rcases h with ⟨_, _, _, _, _, _, _, _, _, _, _, _, _, _, _, _, _, h, _⟩ <;> exact ⟨_, h⟩) (by omega) m_ST_tell ml_PW_224 im_ST_tell se_ST_tell c_ST hf_states.2.2 (Nat.le_of_ble_eq_true rfl) d_PW_which_78 rfl ?_
            intro v G61 hq
            rcases hq with ⟨v62, vr263, cn264, ro265, CU266, ct267, sc268, sta269, st270, ar271, EG272, PO273, BG274, BD275, SD276, SE277, SK278, hv, hfk, hlk, hsk, hNf_states, hNcu_s, hNeg_s, hNpo_s, hNbg_s, hNbd_s, hNsd_s, hNse__s, hNstk_s, hq79, hq80, hq81, hq82, hq83, hq84, hq85, hq86⟩
            cases hv
            have hw_ := hfk.get hw_ (by decide)
            have hf_spans := hfk.get hf_spans (by decide)
            have h17 := hfk.get h17 (by decide)
            have hf_programs := hfk.get hf_programs (by decide)
            have hb3 := hfk.get hb3 (by simp only [List.mem_cons, List.not_mem_nil, or_false]; omega)
            have hki_g := hfk.get hki_g (by simp only [List.mem_cons, List.not_mem_nil, or_false]; omega)
            have hne_g := hfk.get hne_g (by simp only [List.mem_cons, List.not_mem_nil, or_false]; omega)
            have hot_g := hfk.get hot_g (by simp only [List.mem_cons, List.not_mem_nil, or_false]; omega)
            have hra_g := hfk.get hra_g (by simp only [List.mem_cons, List.not_mem_nil, or_false]; omega)
            have hna_g := hfk.get hna_g (by simp only [List.mem_cons, List.not_mem_nil, or_false]; omega)
            have hnl_g := hfk.get hnl_g (by simp only [List.mem_cons, List.not_mem_nil, or_false]; omega)
            have hf_subject := hfk.get hf_subject (by decide)
            have hby_ := hfk.get hby_ (by decide)
            have hco := hfk.get hco (by decide)
            have hre := hfk.get hre (by decide)
            have hho := hfk.get hho (by decide)
            have pthI_f_threads := thI.fr hfk pthI_f_threads (by decide) (by decide) (by decide) (by decide) (by decide) (by decide) (by decide) (by decide)
            have pmkI_f_marks := mkI.fr hfk pmkI_f_marks (by decide) (by decide) (by decide) (by decide)
            have pomI_f_oneMind := omI.fr hfk pomI_f_oneMind (by decide) (by decide) (by decide) (by decide) (by decide) (by decide) (by decide) (by decide)
            have ppgX_0 := pgX.fr hfk ppgX_0 (fun xx hx => Or.inl ((show ∀ y ∈ ([60, 61, 62, 63, 64, 65, 66, 67, 68] : List Nat), y < 100 by decide) xx hx))
            have hfr := hfr.tr hfk (by decide)
            have hq87 := hlk
            have hq88 := hsk
            have hf_states := hNf_states
            have hcu_s := hNcu_s
            have heg_s := hNeg_s
            have hpo_s := hNpo_s
            have hbg_s := hNbg_s
            have hbd_s := hNbd_s
            have hsd_s := hNsd_s
            have hse__s := hNse__s
            have hstk_s := hNstk_s
            change ab_W _ _ _ G61 81 [some (vR w_), some (vz x), some (vz wh), some (vz an), some (vz (zz + sz_g)), some (vz (lk + 1)), some (vz sl), some (vR b3), some (vz 2), none, none] [vz v62] _
            have pstI_f_states : stI o G61 f_states cv cmp := ⟨cu_s, eg_s, po_s, bg_s, bd_s, sd_s, se__s, stk_s, mst_s, vR b3, vr263, ro265, cn264, ct267, sc268, sta269, ar271, st270, CU266, EG272, PO273, BG274, BD275, SD276, SE277, SK278, hf_states, hcu_s, heg_s, hpo_s, hbg_s, hbd_s, hsd_s, hse__s, hstk_s, hq85, (by omega), (by omega), (by omega), hq80, (by rw [show vr263 = ve_g by omega, hvc_g]; exact hq81), hq82, hq83, (by omega)⟩
            have hmq_ : onq mi_ on := hmi_g
            have ppgB_b3 : pgB o G61 b3 (100 + 10 * (Int.toNat sl)) (NR (Int.toNat sl)) cv cmp on mi_ := ⟨ki_g, ne_g, ot_g, cnt_g, fi_g, la_g, ra_g, ru_g, gr_g, wi_g, sz_g, fl_g, ve_g, na_g, nl_g, K_g, N_g, O_g, RR_g, NA_g, NL_g, hb3, hki_g, hne_g, hot_g, hra_g, hna_g, hnl_g, (by omega), hpu_g, hp_g, hr_g, hch_g, (by omega), (by omega), (by omega), (by omega), (by omega), hpo_g, hmq_, (by omega), (by omega), jnl_g, hiv_g, hmn_g, jna_g⟩
            have psuI_f_subject : suI o G61 f_subject n m f := ⟨by_, co, re, ho, C, Rs, H, mc, hf_subject, hby_, hco, hre, hho, (by omega), hsu⟩
            refine ab_istore d_PW_which_81 (Nat.le_of_ble_eq_true rfl) (Nat.le_of_ble_eq_true rfl) rfl ?_
            change ab_W _ _ _ G61 83 [some (vR w_), some (vz x), some (vz wh), some (vz an), some (vz (zz + sz_g)), some (vz (lk + 1)), some (vz sl), some (vR b3), some (vz 2), some (vz v62), none] [] _
            refine ab_iload d_PW_which_83 rfl ?_
            refine zz_bipush d_PW_which_85 (by decide) ?_
            refine zz_icmp_ne (tgt := 112) d_PW_which_87 (by decide) (by omega) (by decide) (fun c89 => ?_) (fun c89 => ?_)
            · refine ab_iload d_PW_which_112 rfl ?_
              refine zz_iconst d_PW_which_114 ?_
              refine zz_icmp_ne (tgt := 122) d_PW_which_115 (by decide) (by omega) (by decide) (fun c90 => ?_) (fun c90 => ?_)
              · refine zz_iconst d_PW_which_122 ?_
                have ppgI_0 := ppgX_0.cls hr2 ppgB_b3
                refine ab_istore d_PW_which_123 (Nat.le_of_ble_eq_true rfl) (Nat.le_of_ble_eq_true rfl) rfl ?_
                change ab_W _ _ _ G61 125 [some (vR w_), some (vz x), some (vz wh), some (vz an), some (vz (zz + sz_g)), some (vz (lk + 1)), some (vz sl), some (vR b3), some (vz 2), some (vz v62), some (vz 0)] [] _
                refine ab_iload_n d_PW_which_125 rfl ?_
                refine ab_iload d_PW_which_126 rfl ?_
                refine zz_if_eq (tgt := 138) d_PW_which_128 (by decide) (by decide) (fun c91 => ?_) (fun c91 => absurd c91 (by decide))
                refine zz_iconst d_PW_which_138 ?_
                refine ab_ior d_PW_which_139 ?_
                obtain ⟨v92, hv92, ev92⟩ := z_ex (Int32.ofInt an ||| Int32.ofInt 0)
                refine ab_topi ev92 ?_
                change ab_W _ _ _ G61 140 [some (vR w_), some (vz x), some (vz wh), some (vz an), some (vz (zz + sz_g)), some (vz (lk + 1)), some (vz sl), some (vR b3), some (vz 2), some (vz v62), some (vz 0)] [vz v92] _
                refine ab_istore_n d_PW_which_140 (Nat.le_of_ble_eq_true rfl) (Nat.le_of_ble_eq_true rfl) rfl ?_
                change ab_W _ _ _ G61 141 [some (vR w_), some (vz x), some (vz wh), some (vz v92), some (vz (zz + sz_g)), some (vz (lk + 1)), some (vz sl), some (vR b3), some (vz 2), some (vz v62), some (vz 0)] [] _
                refine zz_iinc d_PW_which_141 rfl (Nat.le_of_ble_eq_true rfl) (Nat.le_of_ble_eq_true rfl) rfl ?_
                change ab_W _ _ _ G61 144 [some (vR w_), some (vz x), some (vz wh), some (vz v92), some (vz (zz + sz_g)), some (vz (lk + 1)), some (vz (sl + 1)), some (vR b3), some (vz 2), some (vz v62), some (vz 0)] [] _
                refine ab_goto (tgt := 11) d_PW_which_144 (by decide) ?_
                refine ab_less (L' := [some (vR w_), some (vz x), some (vz wh), some (vz v92), some (vz (zz + sz_g)), some (vz (lk + 1)), some (vz (sl + 1)), none, none, none, none]) (fun i v h => by rcases i with _ | _ | _ | _ | _ | _ | _ | _ | _ | _ | _ | i <;> first | exact h | (simp at h)) ?_
                exact ih (on := on) (nm := nm) (ns := ns) (nt := nt) (SP := SP) (an := v92) (zz := (zz + sz_g)) (lk := (lk + 1)) (sl := (sl + 1)) hw_ hf_spans h17 hf_programs pthI_f_threads pmkI_f_marks pomI_f_oneMind pstI_f_states psuI_f_subject ppgI_0 (by omega) jsp (by omega) (by omega) hol hfr (by omega) hk0
              · refine zz_iconst d_PW_which_118 ?_
                refine ab_goto (tgt := 123) d_PW_which_119 (by decide) ?_
                have ppgI_0 := ppgX_0.cls hr2 ppgB_b3
                refine ab_istore d_PW_which_123 (Nat.le_of_ble_eq_true rfl) (Nat.le_of_ble_eq_true rfl) rfl ?_
                change ab_W _ _ _ G61 125 [some (vR w_), some (vz x), some (vz wh), some (vz an), some (vz (zz + sz_g)), some (vz (lk + 1)), some (vz sl), some (vR b3), some (vz 2), some (vz v62), some (vz 1)] [] _
                refine ab_iload_n d_PW_which_125 rfl ?_
                refine ab_iload d_PW_which_126 rfl ?_
                refine zz_if_eq (tgt := 138) d_PW_which_128 (by decide) (by decide) (fun c93 => absurd c93 (by decide)) (fun c93 => ?_)
                refine zz_iconst d_PW_which_131 ?_
                refine ab_iload d_PW_which_132 rfl ?_
                refine zz_shl1 d_PW_which_134 (by omega) ?_
                change ab_W _ _ _ G61 135 [some (vR w_), some (vz x), some (vz wh), some (vz an), some (vz (zz + sz_g)), some (vz (lk + 1)), some (vz sl), some (vR b3), some (vz 2), some (vz v62), some (vz 1)] [vz (tw sl), vz an] _
                refine ab_goto (tgt := 139) d_PW_which_135 (by decide) ?_
                refine ab_ior d_PW_which_139 ?_
                obtain ⟨v94, hv94, ev94⟩ := z_ex (Int32.ofInt an ||| Int32.ofInt (tw sl))
                refine ab_topi ev94 ?_
                change ab_W _ _ _ G61 140 [some (vR w_), some (vz x), some (vz wh), some (vz an), some (vz (zz + sz_g)), some (vz (lk + 1)), some (vz sl), some (vR b3), some (vz 2), some (vz v62), some (vz 1)] [vz v94] _
                refine ab_istore_n d_PW_which_140 (Nat.le_of_ble_eq_true rfl) (Nat.le_of_ble_eq_true rfl) rfl ?_
                change ab_W _ _ _ G61 141 [some (vR w_), some (vz x), some (vz wh), some (vz v94), some (vz (zz + sz_g)), some (vz (lk + 1)), some (vz sl), some (vR b3), some (vz 2), some (vz v62), some (vz 1)] [] _
                refine zz_iinc d_PW_which_141 rfl (Nat.le_of_ble_eq_true rfl) (Nat.le_of_ble_eq_true rfl) rfl ?_
                change ab_W _ _ _ G61 144 [some (vR w_), some (vz x), some (vz wh), some (vz v94), some (vz (zz + sz_g)), some (vz (lk + 1)), some (vz (sl + 1)), some (vR b3), some (vz 2), some (vz v62), some (vz 1)] [] _
                refine ab_goto (tgt := 11) d_PW_which_144 (by decide) ?_
                refine ab_less (L' := [some (vR w_), some (vz x), some (vz wh), some (vz v94), some (vz (zz + sz_g)), some (vz (lk + 1)), some (vz (sl + 1)), none, none, none, none]) (fun i v h => by rcases i with _ | _ | _ | _ | _ | _ | _ | _ | _ | _ | _ | i <;> first | exact h | (simp at h)) ?_
                exact ih (on := on) (nm := nm) (ns := ns) (nt := nt) (SP := SP) (an := v94) (zz := (zz + sz_g)) (lk := (lk + 1)) (sl := (sl + 1)) hw_ hf_spans h17 hf_programs pthI_f_threads pmkI_f_marks pomI_f_oneMind pstI_f_states psuI_f_subject ppgI_0 (by omega) jsp (by omega) (by omega) hol hfr (by omega) hk0
            · refine ab_aload_n d_PW_which_90 rfl ?_
              refine ab_aload d_PW_which_91 rfl ?_
              refine ab_iload d_PW_which_93 rfl ?_
              refine zz_iconst d_PW_which_95 ?_
              refine zz_iconst d_PW_which_96 ?_
              refine ab_callV (d' := d - 1) (as := [vR b3, vz 2, vz 0, vz 0]) (st := []) (r := _) (z_PW_run (o := o) (w_ := w_) (f_ready := f_ready) (f_tape := f_tape) (f_reader := f_reader) (f_programs := f_programs) (f_subject := f_subject) (f_spans := f_spans) (f_threads := f_threads) (f_marks := f_marks) (f_oneMind := f_oneMind) (f_states := f_states) (f_latest := f_latest) (f_matches := f_matches) (f_pieces := f_pieces) (f_template := f_template) (f_result := f_result) (f_spare := f_spare) (cmp := cmp) (ovs := ovs) (q := b3) (lq := (100 + 10 * (Int.toNat sl))) (nr := (NR (Int.toNat sl))) (cv := cv) (on := on) (mi := mi_) (nm := nm) (ns := ns) (nt := nt) (n := n) (m := m) (SP := SP) (f := f) (hw := 2) (mch := 0) (p := 0) hw_ hf_spans h17 pthI_f_threads pmkI_f_marks pomI_f_oneMind pstI_f_states psuI_f_subject ppgB_b3 (by omega) (by omega) jsp (by omega) (by omega) (by omega)) (fun oc G2 h => by rcases h with ⟨_, _, _, _, _, _, _, _, h, _⟩ <;> exact ⟨_, h⟩) (by omega) m_PW_run ml_PW_171 im_PW_run se_PW_run c_PW hw_.2.2 (Nat.le_of_ble_eq_true rfl) d_PW_which_97 rfl ?_
              intro v G95 hq
              rcases hq with ⟨o96, nm297, ns298, on299, nt2100, mi2101, SP2102, r103, hv, hfk, hNf_spans, pNthI_f_threads, pNmkI_f_marks, pNomI_f_oneMind, pNstI_f_states, pNsuI_f_subject, pNpgB_b3, hq104, hq105, hq106, hq107, hq108⟩
              cases hv
              have hw_ := hfk.get hw_ (by simp only [List.mem_cons, List.not_mem_nil, or_false]; omega)
              have h17 := hfk.get h17 (by simp only [List.mem_cons, List.not_mem_nil, or_false]; omega)
              have hf_programs := hfk.get hf_programs (by simp only [List.mem_cons, List.not_mem_nil, or_false]; omega)
              have ppgX_0 := pgX.fr hfk ppgX_0  (by intro xx hx; simp only [List.mem_cons, List.not_mem_nil, or_false] at hx; omega)
              have pthI_f_threads := pNthI_f_threads
              have pmkI_f_marks := pNmkI_f_marks
              have pomI_f_oneMind := pNomI_f_oneMind
              have pstI_f_states := pNstI_f_states
              have psuI_f_subject := pNsuI_f_subject
              have ppgB_b3 := pNpgB_b3
              have hfr := hfr.tr hfk (sub6 (A := [31, 32, 33, 35, 36, 37, 38, 39, 40, 44, 45, 46, 47, 50, 51, 52, 53, 54, 55, 56, 57, 60, 61, 62, 63, 64, 65, 66, 67, 68]) (k := (Int.toNat sl)) (by omega))
              have hq109 := hfk.1
              have hf_spans := hNf_spans
              change ab_W _ _ _ G95 100 [some (vR w_), some (vz x), some (vz wh), some (vz an), some (vz (zz + sz_g)), some (vz (lk + 1)), some (vz sl), some (vR b3), some (vz 2), some (vz v62), none] [vz r103] _
              have ppgX_0 := ppgX_0.ong hq108
              refine zz_iconst d_PW_which_100 ?_
              refine zz_icmp_eq (tgt := 108) d_PW_which_101 (by decide) (by omega) (by decide) (fun c110 => ?_) (fun c110 => ?_)
              · refine zz_iconst d_PW_which_108 ?_
                refine ab_goto (tgt := 123) d_PW_which_109 (by decide) ?_
                have ppgI_0 := ppgX_0.cls hr2 ppgB_b3
                refine ab_istore d_PW_which_123 (Nat.le_of_ble_eq_true rfl) (Nat.le_of_ble_eq_true rfl) rfl ?_
                change ab_W _ _ _ G95 125 [some (vR w_), some (vz x), some (vz wh), some (vz an), some (vz (zz + sz_g)), some (vz (lk + 1)), some (vz sl), some (vR b3), some (vz 2), some (vz v62), some (vz 0)] [] _
                refine ab_iload_n d_PW_which_125 rfl ?_
                refine ab_iload d_PW_which_126 rfl ?_
                refine zz_if_eq (tgt := 138) d_PW_which_128 (by decide) (by decide) (fun c111 => ?_) (fun c111 => absurd c111 (by decide))
                refine zz_iconst d_PW_which_138 ?_
                refine ab_ior d_PW_which_139 ?_
                obtain ⟨v112, hv112, ev112⟩ := z_ex (Int32.ofInt an ||| Int32.ofInt 0)
                refine ab_topi ev112 ?_
                change ab_W _ _ _ G95 140 [some (vR w_), some (vz x), some (vz wh), some (vz an), some (vz (zz + sz_g)), some (vz (lk + 1)), some (vz sl), some (vR b3), some (vz 2), some (vz v62), some (vz 0)] [vz v112] _
                refine ab_istore_n d_PW_which_140 (Nat.le_of_ble_eq_true rfl) (Nat.le_of_ble_eq_true rfl) rfl ?_
                change ab_W _ _ _ G95 141 [some (vR w_), some (vz x), some (vz wh), some (vz v112), some (vz (zz + sz_g)), some (vz (lk + 1)), some (vz sl), some (vR b3), some (vz 2), some (vz v62), some (vz 0)] [] _
                refine zz_iinc d_PW_which_141 rfl (Nat.le_of_ble_eq_true rfl) (Nat.le_of_ble_eq_true rfl) rfl ?_
                change ab_W _ _ _ G95 144 [some (vR w_), some (vz x), some (vz wh), some (vz v112), some (vz (zz + sz_g)), some (vz (lk + 1)), some (vz (sl + 1)), some (vR b3), some (vz 2), some (vz v62), some (vz 0)] [] _
                refine ab_goto (tgt := 11) d_PW_which_144 (by decide) ?_
                refine ab_less (L' := [some (vR w_), some (vz x), some (vz wh), some (vz v112), some (vz (zz + sz_g)), some (vz (lk + 1)), some (vz (sl + 1)), none, none, none, none]) (fun i v h => by rcases i with _ | _ | _ | _ | _ | _ | _ | _ | _ | _ | _ | i <;> first | exact h | (simp at h)) ?_
                exact ih (on := on299) (nm := nm297) (ns := ns298) (nt := nt2100) (SP := SP2102) (an := v112) (zz := (zz + sz_g)) (lk := (lk + 1)) (sl := (sl + 1)) hw_ hf_spans h17 hf_programs pthI_f_threads pmkI_f_marks pomI_f_oneMind pstI_f_states psuI_f_subject ppgI_0 (by omega) hq105 (by omega) (by omega) (onL_tr hol hq108) hfr (by omega) hk0
              · refine zz_iconst d_PW_which_104 ?_
                refine ab_goto (tgt := 123) d_PW_which_105 (by decide) ?_
                have ppgI_0 := ppgX_0.cls hr2 ppgB_b3
                refine ab_istore d_PW_which_123 (Nat.le_of_ble_eq_true rfl) (Nat.le_of_ble_eq_true rfl) rfl ?_
                change ab_W _ _ _ G95 125 [some (vR w_), some (vz x), some (vz wh), some (vz an), some (vz (zz + sz_g)), some (vz (lk + 1)), some (vz sl), some (vR b3), some (vz 2), some (vz v62), some (vz 1)] [] _
                refine ab_iload_n d_PW_which_125 rfl ?_
                refine ab_iload d_PW_which_126 rfl ?_
                refine zz_if_eq (tgt := 138) d_PW_which_128 (by decide) (by decide) (fun c113 => absurd c113 (by decide)) (fun c113 => ?_)
                refine zz_iconst d_PW_which_131 ?_
                refine ab_iload d_PW_which_132 rfl ?_
                refine zz_shl1 d_PW_which_134 (by omega) ?_
                change ab_W _ _ _ G95 135 [some (vR w_), some (vz x), some (vz wh), some (vz an), some (vz (zz + sz_g)), some (vz (lk + 1)), some (vz sl), some (vR b3), some (vz 2), some (vz v62), some (vz 1)] [vz (tw sl), vz an] _
                refine ab_goto (tgt := 139) d_PW_which_135 (by decide) ?_
                refine ab_ior d_PW_which_139 ?_
                obtain ⟨v114, hv114, ev114⟩ := z_ex (Int32.ofInt an ||| Int32.ofInt (tw sl))
                refine ab_topi ev114 ?_
                change ab_W _ _ _ G95 140 [some (vR w_), some (vz x), some (vz wh), some (vz an), some (vz (zz + sz_g)), some (vz (lk + 1)), some (vz sl), some (vR b3), some (vz 2), some (vz v62), some (vz 1)] [vz v114] _
                refine ab_istore_n d_PW_which_140 (Nat.le_of_ble_eq_true rfl) (Nat.le_of_ble_eq_true rfl) rfl ?_
                change ab_W _ _ _ G95 141 [some (vR w_), some (vz x), some (vz wh), some (vz v114), some (vz (zz + sz_g)), some (vz (lk + 1)), some (vz sl), some (vR b3), some (vz 2), some (vz v62), some (vz 1)] [] _
                refine zz_iinc d_PW_which_141 rfl (Nat.le_of_ble_eq_true rfl) (Nat.le_of_ble_eq_true rfl) rfl ?_
                change ab_W _ _ _ G95 144 [some (vR w_), some (vz x), some (vz wh), some (vz v114), some (vz (zz + sz_g)), some (vz (lk + 1)), some (vz (sl + 1)), some (vR b3), some (vz 2), some (vz v62), some (vz 1)] [] _
                refine ab_goto (tgt := 11) d_PW_which_144 (by decide) ?_
                refine ab_less (L' := [some (vR w_), some (vz x), some (vz wh), some (vz v114), some (vz (zz + sz_g)), some (vz (lk + 1)), some (vz (sl + 1)), none, none, none, none]) (fun i v h => by rcases i with _ | _ | _ | _ | _ | _ | _ | _ | _ | _ | _ | i <;> first | exact h | (simp at h)) ?_
                exact ih (on := on299) (nm := nm297) (ns := ns298) (nt := nt2100) (SP := SP2102) (an := v114) (zz := (zz + sz_g)) (lk := (lk + 1)) (sl := (sl + 1)) hw_ hf_spans h17 hf_programs pthI_f_threads pmkI_f_marks pomI_f_oneMind pstI_f_states psuI_f_subject ppgI_0 (by omega) hq105 (by omega) (by omega) (onL_tr hol hq108) hfr (by omega) hk0
set_option maxRecDepth 100000 in
set_option maxHeartbeats 4000000 in
theorem z_PW_which {X : ab_X} {d : Nat} {o : Nat → Nat} {G : ab_G} {w_ : Nat} {f_ready : Nat} {f_tape : Nat} {f_reader : Nat} {f_programs : Nat} {f_subject : Nat} {f_spans : Nat} {f_threads : Nat} {f_marks : Nat} {f_oneMind : Nat} {f_states : Nat} {f_latest : Nat} {f_matches : Nat} {f_pieces : Nat} {f_template : Nat} {f_result : Nat} {f_spare : Nat} {cmp : Int} {ovs : Int} {PG : Nat → Option Nat} {NR : Nat → Nat} {cv : Int → Int} {on : Nat} {nm : Nat} {ns : Nat} {nt : Nat} {n : Int} {m : Nat} {SP : Int → Int} {f : Int → Int} {x : Int} {wh : Int} (hw_ : cc o G w_ 18 (ab_ob 0 [vR f_ready, vR f_tape, vR f_reader, vR f_programs, vR f_subject, vR f_spans, vR f_threads, vR f_marks, vR f_oneMind, vR f_states, vR f_latest, vR f_matches, vR f_pieces, vR f_template, vR f_result, vR f_spare, vz cmp, vz ovs])) (hf_spans : cc o G f_spans 31 (za 20 SP)) (h17 : cc o G 17 17 (za 12 zFC)) (hf_programs : cc o G f_programs 81 (ab_rr 6 PG)) (pthI_f_threads : thI o G f_threads) (pmkI_f_marks : mkI o G f_marks nm ns) (pomI_f_oneMind : omI o G f_oneMind on nt) (pstI_f_states : stI o G f_states cv cmp) (psuI_f_subject : suI o G f_subject n m f) (ppgI_0 : pgI o G 0 PG NR cv cmp on) (n18 : ab_n0 = 18) (cwh : 0 ≤ wh ∧ wh ≤ 1) (jsp : rgs SP 20 (-1) 2000) (rc : 64 * G.length + 4600000 ≤ 64 * (ab_n0 + room_1.cells) + (64 * nm + 64 * stC ns + nt + onPQ on)) (rs : ab_slots G + 2360000 ≤ room_1.slots + (zT nm 52026 + stT ns + 2 * nt + onSQ on)) (hd : 17 ≤ d) : ab_F X d y_PW_which (.code y_PW_which b_PW_which 11 (some (.int))) [vR w_, vz x, vz wh] G (fun oc G2 => ∃ o2 : Nat → Nat, ∃ nm2 : Nat, ∃ ns2 : Nat, ∃ on2 : Nat, ∃ nt2 : Nat, ∃ ov2 : Int, ∃ an2 : Int, ∃ SP2 : Int → Int, oc = .returned (some (vz an2)) ∧ fx o o2 [18, 31, 32, 33, 35, 36, 37, 38, 39, 40, 44, 45, 46, 47, 50, 51, 52, 53, 54, 55, 56, 57, 60, 61, 62, 63, 64, 65, 66, 67, 68, 100, 110, 120, 130, 140, 150] G G2 ∧ cc o2 G2 w_ 18 (ab_ob 0 [vR f_ready, vR f_tape, vR f_reader, vR f_programs, vR f_subject, vR f_spans, vR f_threads, vR f_marks, vR f_oneMind, vR f_states, vR f_latest, vR f_matches, vR f_pieces, vR f_template, vR f_result, vR f_spare, vz cmp, vz ov2]) ∧ cc o2 G2 f_spans 31 (za 20 SP2) ∧ thI o2 G2 f_threads ∧ mkI o2 G2 f_marks nm2 ns2 ∧ omI o2 G2 f_oneMind on2 nt2 ∧ stI o2 G2 f_states cv cmp ∧ suI o2 G2 f_subject n m f ∧ pgI o2 G2 0 PG NR cv cmp on2 ∧ (rgs SP2 20 (-1) 2000) ∧ (64 * G2.length + (64 * nm + 64 * stC ns + nt + onPQ on) ≤ 64 * G.length + (64 * nm2 + 64 * stC ns2 + nt2 + onPQ on2)) ∧ (ab_slots G2 + (zT nm 52026 + stT ns + 2 * nt + onSQ on) ≤ ab_slots G + (zT nm2 52026 + stT ns2 + 2 * nt2 + onSQ on2)) ∧ (onL on on2)) := by
  refine ab_F_of (by decide +kernel) (Nat.le_of_ble_eq_true rfl) ?_
  obtain ⟨Q, hQ⟩ : ∃ z : Outcome → ab_G → Prop, z = (fun oc G2 => ∃ o2 : Nat → Nat, ∃ nm2 : Nat, ∃ ns2 : Nat, ∃ on2 : Nat, ∃ nt2 : Nat, ∃ ov2 : Int, ∃ an2 : Int, ∃ SP2 : Int → Int, oc = .returned (some (vz an2)) ∧ fx o o2 [18, 31, 32, 33, 35, 36, 37, 38, 39, 40, 44, 45, 46, 47, 50, 51, 52, 53, 54, 55, 56, 57, 60, 61, 62, 63, 64, 65, 66, 67, 68, 100, 110, 120, 130, 140, 150] G G2 ∧ cc o2 G2 w_ 18 (ab_ob 0 [vR f_ready, vR f_tape, vR f_reader, vR f_programs, vR f_subject, vR f_spans, vR f_threads, vR f_marks, vR f_oneMind, vR f_states, vR f_latest, vR f_matches, vR f_pieces, vR f_template, vR f_result, vR f_spare, vz cmp, vz ov2]) ∧ cc o2 G2 f_spans 31 (za 20 SP2) ∧ thI o2 G2 f_threads ∧ mkI o2 G2 f_marks nm2 ns2 ∧ omI o2 G2 f_oneMind on2 nt2 ∧ stI o2 G2 f_states cv cmp ∧ suI o2 G2 f_subject n m f ∧ pgI o2 G2 0 PG NR cv cmp on2 ∧ (rgs SP2 20 (-1) 2000) ∧ (64 * G2.length + (64 * nm + 64 * stC ns + nt + onPQ on) ≤ 64 * G.length + (64 * nm2 + 64 * stC ns2 + nt2 + onPQ on2)) ∧ (ab_slots G2 + (zT nm 52026 + stT ns + 2 * nt + onSQ on) ≤ ab_slots G + (zT nm2 52026 + stT ns2 + 2 * nt2 + onSQ on2)) ∧ (onL on on2)) := ⟨_, rfl⟩
  rw [← hQ]
  change ab_W X (ab_pl y_PW_which b_PW_which 11 (some (.int))) d G 0 [some (vR w_), some (vz x), some (vz wh), none, none, none, none, none, none, none, none] [] Q
  have hfr : fx o o [18, 31, 32, 33, 35, 36, 37, 38, 39, 40, 44, 45, 46, 47, 50, 51, 52, 53, 54, 55, 56, 57, 60, 61, 62, 63, 64, 65, 66, 67, 68, 100, 110, 120, 130, 140, 150] G G := fx.rf
  refine zz_iconst d_PW_which_0 ?_
  refine ab_istore_n d_PW_which_1 (Nat.le_of_ble_eq_true rfl) (Nat.le_of_ble_eq_true rfl) rfl ?_
  change ab_W _ _ _ G 2 [some (vR w_), some (vz x), some (vz wh), some (vz 0), none, none, none, none, none, none, none] [] _
  refine zz_iconst d_PW_which_2 ?_
  refine ab_istore d_PW_which_3 (Nat.le_of_ble_eq_true rfl) (Nat.le_of_ble_eq_true rfl) rfl ?_
  change ab_W _ _ _ G 5 [some (vR w_), some (vz x), some (vz wh), some (vz 0), some (vz 0), none, none, none, none, none, none] [] _
  refine zz_iconst d_PW_which_5 ?_
  refine ab_istore d_PW_which_6 (Nat.le_of_ble_eq_true rfl) (Nat.le_of_ble_eq_true rfl) rfl ?_
  change ab_W _ _ _ G 8 [some (vR w_), some (vz x), some (vz wh), some (vz 0), some (vz 0), some (vz 0), none, none, none, none, none] [] _
  refine zz_iconst d_PW_which_8 ?_
  refine ab_istore d_PW_which_9 (Nat.le_of_ble_eq_true rfl) (Nat.le_of_ble_eq_true rfl) rfl ?_
  change ab_W _ _ _ G 11 [some (vR w_), some (vz x), some (vz wh), some (vz 0), some (vz 0), some (vz 0), some (vz 0), none, none, none, none] [] _
  refine y_PW_which_11 (w_ := w_) (f_ready := f_ready) (f_tape := f_tape) (f_reader := f_reader) (f_programs := f_programs) (f_subject := f_subject) (f_spans := f_spans) (f_threads := f_threads) (f_marks := f_marks) (f_oneMind := f_oneMind) (f_states := f_states) (f_latest := f_latest) (f_matches := f_matches) (f_pieces := f_pieces) (f_template := f_template) (f_result := f_result) (f_spare := f_spare) (cmp := cmp) (ovs := ovs) (PG := PG) (NR := NR) (cv := cv) (n := n) (m := m) (f := f) (x := x) (wh := wh) (nm0 := nm) (ns0 := ns) (on0 := on) (nt0 := nt) (G0 := G) (on := on) (nm := nm) (ns := ns) (nt := nt) (SP := SP) (an := 0) (zz := 0) (lk := 0) (sl := 0) (by omega) (by omega) (by omega) (by omega) (by omega) (Int.toNat (6 - 0) + 1) hw_ hf_spans h17 hf_programs pthI_f_threads pmkI_f_marks pomI_f_oneMind pstI_f_states psuI_f_subject ppgI_0 (by omega) jsp (by omega) (by omega) (Or.inl rfl) fx.rf (by omega) (fun G1 o2 nm23 ns24 on25 nt26 an27 zz28 lk29 SP210 hNf_spans pNthI_f_threads pNmkI_f_marks pNomI_f_oneMind pNstI_f_states pNsuI_f_subject pNpgI_0 hq11 hq12 hq13 hq14 hq15 hfk => ?_)
  · have hw_ := hfk.get hw_ (by decide)
    have h17 := hfk.get h17 (by decide)
    have hf_programs := hfk.get hf_programs (by decide)
    have hfr := hfr.tr hfk (by decide)
    have hq16 := hfk.1
    have hf_spans := hNf_spans
    have pthI_f_threads := pNthI_f_threads
    have pmkI_f_marks := pNmkI_f_marks
    have pomI_f_oneMind := pNomI_f_oneMind
    have pstI_f_states := pNstI_f_states
    have psuI_f_subject := pNsuI_f_subject
    have ppgI_0 := pNpgI_0
    change ab_W _ _ _ G1 147 [some (vR w_), none, none, some (vz an27), some (vz zz28), some (vz lk29), none, none, none, none, none] [] _
    refine ab_aload_n d_PW_which_147 rfl ?_
    refine ab_iload d_PW_which_148 rfl ?_
    refine ab_iload d_PW_which_150 rfl ?_
    refine ab_callV (d' := d - 1) (as := [vz zz28, vz lk29]) (st := []) (r := _) (z_PW_settle (o := o2) (w_ := w_) (f_ready := f_ready) (f_tape := f_tape) (f_reader := f_reader) (f_programs := f_programs) (f_subject := f_subject) (f_spans := f_spans) (f_threads := f_threads) (f_marks := f_marks) (f_oneMind := f_oneMind) (f_states := f_states) (f_latest := f_latest) (f_matches := f_matches) (f_pieces := f_pieces) (f_template := f_template) (f_result := f_result) (f_spare := f_spare) (cmp := cmp) (ovs := ovs) (cv := cv) (on := on25) (nm := nm23) (ns := ns24) (nt := nt26) (n := n) (m := m) (f := f) (z1 := zz28) (z2 := lk29) hw_ pthI_f_threads pmkI_f_marks pomI_f_oneMind pstI_f_states psuI_f_subject (by omega) (by omega) (by omega)) (fun oc G2 h => by rcases h with ⟨_, h, _⟩ <;> exact ⟨_, h⟩) (by omega) m_PW_settle ml_PW_175 im_PW_settle se_PW_settle c_PW hw_.2.2 (Nat.le_of_ble_eq_true rfl) d_PW_which_152 rfl ?_
    intro v G17 hq
    rcases hq with ⟨ov218, hv, hfk, hlk, hsk, hNw_, pNthI_f_threads, pNmkI_f_marks, pNomI_f_oneMind, pNstI_f_states, pNsuI_f_subject⟩
    cases hv
    have hf_spans := hfk.get hf_spans (by decide)
    have h17 := hfk.get h17 (by decide)
    have hf_programs := hfk.get hf_programs (by decide)
    have ppgI_0 := pgI.fr hfk ppgI_0  (by decide)
    have pthI_f_threads := pNthI_f_threads
    have pmkI_f_marks := pNmkI_f_marks
    have pomI_f_oneMind := pNomI_f_oneMind
    have pstI_f_states := pNstI_f_states
    have psuI_f_subject := pNsuI_f_subject
    have hfr := hfr.tr hfk (by decide)
    have hq19 := hlk
    have hq20 := hsk
    have hw_ := hNw_
    change ab_W _ _ _ G17 155 [some (vR w_), none, none, some (vz an27), some (vz zz28), some (vz lk29), none, none, none, none, none] [] _
    refine ab_iload_n d_PW_which_155 rfl ?_
    refine zz_iret rfl d_PW_which_156 ?_
    rw [hQ]; exact ⟨_, _, _, _, _, _, _, _, rfl, hfr, hw_, hf_spans, pthI_f_threads, pmkI_f_marks, pomI_f_oneMind, pstI_f_states, psuI_f_subject, ppgI_0, (by exact hq11), (by omega), (by omega), (by exact hq15)⟩
