set_option maxRecDepth 100000 in
set_option maxHeartbeats 4000000 in
theorem z_PW_run {X : ab_X} {d : Nat} {o : Nat → Nat} {G : ab_G} {w_ : Nat} {f_ready : Nat} {f_tape : Nat} {f_reader : Nat} {f_programs : Nat} {f_subject : Nat} {f_spans : Nat} {f_threads : Nat} {f_marks : Nat} {f_oneMind : Nat} {f_states : Nat} {f_latest : Nat} {f_matches : Nat} {f_pieces : Nat} {f_template : Nat} {f_result : Nat} {f_spare : Nat} {cmp : Int} {ovs : Int} {q : Nat} {lq : Nat} {nr : Nat} {cv : Int → Int} {on : Nat} {mi : Int} {nm : Nat} {ns : Nat} {nt : Nat} {n : Int} {m : Nat} {SP : Int → Int} {f : Int → Int} {hw : Int} {mch : Int} {p : Int} (hw_ : cc o G w_ 18 (ab_ob 0 [vR f_ready, vR f_tape, vR f_reader, vR f_programs, vR f_subject, vR f_spans, vR f_threads, vR f_marks, vR f_oneMind, vR f_states, vR f_latest, vR f_matches, vR f_pieces, vR f_template, vR f_result, vR f_spare, vz cmp, vz ovs])) (hf_spans : cc o G f_spans 31 (za 20 SP)) (h17 : cc o G 17 17 (za 12 zFC)) (pthI_f_threads : thI o G f_threads) (pmkI_f_marks : mkI o G f_marks nm ns) (pomI_f_oneMind : omI o G f_oneMind on nt) (pstI_f_states : stI o G f_states cv cmp) (psuI_f_subject : suI o G f_subject n m f) (ppgB_q : pgB o G q lq nr cv cmp on mi) (n18 : ab_n0 = 18) (chw : 0 ≤ hw ∧ hw ≤ 2 ∧ 0 ≤ mch ∧ mch ≤ 4 ∧ 0 ≤ p ∧ p ≤ n) (jsp : rgs SP 20 (-1) 2000) (rc : 64 * G.length + 4600000 ≤ 64 * (ab_n0 + room_1.cells) + (64 * nm + 64 * stC ns + nt + onPQ on)) (rs : ab_slots G + 2360000 ≤ room_1.slots + (zT nm 52026 + stT ns + 2 * nt + onSQ on)) (hd : 15 ≤ d) : ab_F X d y_PW_run (.code y_PW_run b_PW_run 5 (some (.int))) [vR w_, vR q, vz hw, vz mch, vz p] G (fun oc G2 => ∃ o2 : Nat → Nat, ∃ nm2 : Nat, ∃ ns2 : Nat, ∃ on2 : Nat, ∃ nt2 : Nat, ∃ mi2 : Int, ∃ SP2 : Int → Int, ∃ r : Int, oc = .returned (some (vz r)) ∧ fx o o2 [31, 32, 33, 35, 36, 37, 38, 39, 40, 44, 45, 46, 47, 50, 51, 52, 53, 54, 55, 56, 57, 60, 61, 62, 63, 64, 65, 66, 67, 68, lq] G G2 ∧ cc o2 G2 f_spans 31 (za 20 SP2) ∧ thI o2 G2 f_threads ∧ mkI o2 G2 f_marks nm2 ns2 ∧ omI o2 G2 f_oneMind on2 nt2 ∧ stI o2 G2 f_states cv cmp ∧ suI o2 G2 f_subject n m f ∧ pgB o2 G2 q lq nr cv cmp on2 mi2 ∧ (-1 ≤ r ∧ r ≤ n) ∧ (rgs SP2 20 (-1) 2000) ∧ (64 * G2.length + (64 * nm + 64 * stC ns + nt + onPQ on) ≤ 64 * G.length + (64 * nm2 + 64 * stC ns2 + nt2 + onPQ on2)) ∧ (ab_slots G2 + (zT nm 52026 + stT ns + 2 * nt + onSQ on) ≤ ab_slots G + (zT nm2 52026 + stT ns2 + 2 * nt2 + onSQ on2)) ∧ (onL on on2)) := by
  refine ab_F_of (by decide +kernel) (Nat.le_of_ble_eq_true rfl) ?_
  obtain ⟨Q, hQ⟩ : ∃ z : Outcome → ab_G → Prop, z = (fun oc G2 => ∃ o2 : Nat → Nat, ∃ nm2 : Nat, ∃ ns2 : Nat, ∃ on2 : Nat, ∃ nt2 : Nat, ∃ mi2 : Int, ∃ SP2 : Int → Int, ∃ r : Int, oc = .returned (some (vz r)) ∧ fx o o2 [31, 32, 33, 35, 36, 37, 38, 39, 40, 44, 45, 46, 47, 50, 51, 52, 53, 54, 55, 56, 57, 60, 61, 62, 63, 64, 65, 66, 67, 68, lq] G G2 ∧ cc o2 G2 f_spans 31 (za 20 SP2) ∧ thI o2 G2 f_threads ∧ mkI o2 G2 f_marks nm2 ns2 ∧ omI o2 G2 f_oneMind on2 nt2 ∧ stI o2 G2 f_states cv cmp ∧ suI o2 G2 f_subject n m f ∧ pgB o2 G2 q lq nr cv cmp on2 mi2 ∧ (-1 ≤ r ∧ r ≤ n) ∧ (rgs SP2 20 (-1) 2000) ∧ (64 * G2.length + (64 * nm + 64 * stC ns + nt + onPQ on) ≤ 64 * G.length + (64 * nm2 + 64 * stC ns2 + nt2 + onPQ on2)) ∧ (ab_slots G2 + (zT nm 52026 + stT ns + 2 * nt + onSQ on) ≤ ab_slots G + (zT nm2 52026 + stT ns2 + 2 * nt2 + onSQ on2)) ∧ (onL on on2)) := ⟨_, rfl⟩
  rw [← hQ]
  change ab_W X (ab_pl y_PW_run b_PW_run 5 (some (.int))) d G 0 [some (vR w_), some (vR q), some (vz hw), some (vz mch), some (vz p)] [] Q
  have hfr : fx o o [31, 32, 33, 35, 36, 37, 38, 39, 40, 44, 45, 46, 47, 50, 51, 52, 53, 54, 55, 56, 57, 60, 61, 62, 63, 64, 65, 66, 67, 68, lq] G G := fx.rf
  obtain ⟨ki, ne, ot, cnt, fi, la, ra, ru, gr, wi, sz, fl, ve, na, nl, K, N, O, RR, NA, NL, hq, hki, hne, hot, hra, hna, hnl, cq, hpu, hp, hr, hch, cru, ck9, cfi, cgr, cfl, hpo, hmi, hvc, cve, jnl, hiv, hmn, jna⟩ := ppgB_q
  have hmn0_ := hmn
  obtain ⟨v9_, hmv_, hpm_⟩ := hmn0_
  obtain ⟨by_, co, re, ho, C, Rs, H, mc, hf_subject, hby_, hco, hre, hho, csu, hsu⟩ := psuI_f_subject
  have hq1 := stT_le ns
  have hq2 := stC_le ns
  have hq3 := onPQ_le on
  have hq4 := onSQ_le on
  have hnt_ := pomI_f_oneMind.nt
  have hnm_ := pmkI_f_marks.b
  have hzt_ : zT nm 52026 ≤ 156078 := zT_le (c := 52026) (by omega) rfl
  refine ab_iload_n d_PW_run_0 rfl ?_
  refine zz_iconst d_PW_run_1 ?_
  refine zz_icmp_ne (tgt := 25) d_PW_run_2 (by decide) (by omega) (by decide) (fun c5 => ?_) (fun c5 => ?_)
  · refine ab_iload_n d_PW_run_25 rfl ?_
    refine zz_iconst d_PW_run_26 ?_
    refine zz_icmp_ne (tgt := 65) d_PW_run_27 (by decide) (by omega) (by decide) (fun c6 => ?_) (fun c6 => ?_)
    · refine ab_iload_n d_PW_run_65 rfl ?_
      refine zz_iconst d_PW_run_66 ?_
      refine zz_icmp_ne (tgt := 90) d_PW_run_67 (by decide) (by omega) (by decide) (fun c7 => ?_) (fun c7 => ?_)
      · refine ab_aload_n d_PW_run_90 rfl ?_
        refine ab_getf (fs := [vR f_ready, vR f_tape, vR f_reader, vR f_programs, vR f_subject, vR f_spans, vR f_threads, vR f_marks, vR f_oneMind, vR f_states, vR f_latest, vR f_matches, vR f_pieces, vR f_template, vR f_result, vR f_spare, vz cmp, vz ovs]) f_PW_55 d_PW_run_91 hw_.2.2 rfl ?_
        refine ab_aload_n d_PW_run_94 rfl ?_
        refine ab_aload_n d_PW_run_95 rfl ?_
        refine ab_getf (fs := [vR f_ready, vR f_tape, vR f_reader, vR f_programs, vR f_subject, vR f_spans, vR f_threads, vR f_marks, vR f_oneMind, vR f_states, vR f_latest, vR f_matches, vR f_pieces, vR f_template, vR f_result, vR f_spare, vz cmp, vz ovs]) f_PW_38 d_PW_run_96 hw_.2.2 rfl ?_
        refine ab_iload_n d_PW_run_99 rfl ?_
        refine ab_iload d_PW_run_100 rfl ?_
        refine ab_aload_n d_PW_run_102 rfl ?_
        refine ab_getf (fs := [vR f_ready, vR f_tape, vR f_reader, vR f_programs, vR f_subject, vR f_spans, vR f_threads, vR f_marks, vR f_oneMind, vR f_states, vR f_latest, vR f_matches, vR f_pieces, vR f_template, vR f_result, vR f_spare, vz cmp, vz ovs]) f_PW_42 d_PW_run_103 hw_.2.2 rfl ?_
        obtain ⟨wk_k, mk_k, stk_k, w_k, df_k, dp_k, fo_k, fy_k, hw_k, stp_k, WK_k, M_k, SK_k, sp0_k, q0_k, s0_k, hf_marks, hwk_k, hmk_k, hstk_k, cn_k, hst_k, cfo_k⟩ := pmkI_f_marks
        refine ab_callV (d' := d - 1) (as := [vR q, vR f_subject, vz hw, vz p, vR f_spans]) (st := []) (r := _) (z_MK_begin (o := o) (q := q) (lq := lq) (ki := ki) (ne := ne) (ot := ot) (cnt := cnt) (fi := fi) (la := la) (ra := ra) (ru := ru) (gr := gr) (wi := wi) (sz := sz) (fl := fl) (ve := ve) (mi := mi) (na := na) (nl := nl) (s := f_subject) (by_ := by_) (co := co) (re := re) (ho := ho) (n := n) (a := f_marks) (sp := f_spans) (wk := wk_k) (mk := mk_k) (stk := stk_k) (dp := dp_k) (fo := fo_k) (hw := hw) (stp := stp_k) (M := M_k) (nm := nm) (q0 := q0_k) (s0 := s0_k) (sp0 := sp0_k) (from_ := p) (hw0 := hw_k) (fy0 := fy_k) (w0 := w_k) (df0 := df_k) hf_marks hmk_k hq hf_subject (by omega) (by omega) (by omega) (by omega) (by omega) (by omega) (by omega)) (fun oc G2 h => by rcases h with ⟨_, _, _, _, _, _, h, _⟩ <;> exact ⟨_, h⟩) (by omega) m_MK_begin ml_PW_189 im_MK_begin se_MK_begin c_MK hf_marks.2.2 (Nat.le_of_ble_eq_true rfl) d_PW_run_106 rfl ?_
        intro v G8 hq
        rcases hq with ⟨o9, w210, fy211, mk212, nm213, M214, hv, hfk, hNf_marks, hNmk212, hq15, hq16, hq17, hq18, hq19, hq20, hq21⟩
        cases hv
        have hw_ := hfk.get hw_ (by decide)
        have hf_spans := hfk.get hf_spans (by decide)
        have h17 := hfk.get h17 (by decide)
        have hq := hfk.get hq (by simp only [List.mem_cons, List.not_mem_nil, or_false]; omega)
        have hki := hfk.get hki (by simp only [List.mem_cons, List.not_mem_nil, or_false]; omega)
        have hne := hfk.get hne (by simp only [List.mem_cons, List.not_mem_nil, or_false]; omega)
        have hot := hfk.get hot (by simp only [List.mem_cons, List.not_mem_nil, or_false]; omega)
        have hra := hfk.get hra (by simp only [List.mem_cons, List.not_mem_nil, or_false]; omega)
        have hna := hfk.get hna (by simp only [List.mem_cons, List.not_mem_nil, or_false]; omega)
        have hnl := hfk.get hnl (by simp only [List.mem_cons, List.not_mem_nil, or_false]; omega)
        have hf_subject := hfk.get hf_subject (by decide)
        have hby_ := hfk.get hby_ (by decide)
        have hco := hfk.get hco (by decide)
        have hre := hfk.get hre (by decide)
        have hho := hfk.get hho (by decide)
        have hwk_k := hfk.get hwk_k (by decide)
        have hstk_k := hfk.get hstk_k (by decide)
        have pthI_f_threads := thI.fr hfk pthI_f_threads (by decide) (by decide) (by decide) (by decide) (by decide) (by decide) (by decide) (by decide)
        have pomI_f_oneMind := omI.fr hfk pomI_f_oneMind (by decide) (by decide) (by decide) (by decide) (by decide) (by decide) (by decide) (by decide)
        have pstI_f_states := stI.fr hfk pstI_f_states (by decide) (by decide) (by decide) (by decide) (by decide) (by decide) (by decide) (by decide) (by decide)
        have hfr := hfr.tr hfk (by simp)
        have hq22 := hfk.1
        have hf_marks := hNf_marks
        have hmk212 := hNmk212
        change ab_W _ _ _ G8 109 [some (vR w_), some (vR q), some (vz hw), some (vz mch), some (vz p)] [] _
        have hzt2_ : zT nm213 52026 ≤ 156078 := zT_le (c := 52026) (by omega) rfl
        refine ab_aload_n d_PW_run_109 rfl ?_
        refine ab_getf (fs := [vR f_ready, vR f_tape, vR f_reader, vR f_programs, vR f_subject, vR f_spans, vR f_threads, vR f_marks, vR f_oneMind, vR f_states, vR f_latest, vR f_matches, vR f_pieces, vR f_template, vR f_result, vR f_spare, vz cmp, vz ovs]) f_PW_55 d_PW_run_110 hw_.2.2 rfl ?_
        refine ab_iload d_PW_run_113 rfl ?_
        refine ab_callV (d' := d - 1) (as := [vz p]) (st := []) (r := _) (z_MK_find (o := o9) (q := q) (lq := lq) (ki := ki) (ne := ne) (ot := ot) (cnt := cnt) (fi := fi) (la := la) (ra := ra) (ru := ru) (gr := gr) (wi := wi) (sz := sz) (fl := fl) (ve := ve) (mi := mi) (na := na) (nl := nl) (K := K) (N := N) (O := O) (RR := RR) (nr := nr) (s := f_subject) (by_ := by_) (co := co) (re := re) (ho := ho) (n := n) (C := C) (Rs := Rs) (H := H) (mc := mc) (a := f_marks) (sp := f_spans) (wk := wk_k) (mk := mk212) (stk := stk_k) (w := w210) (df := p) (dp := dp_k) (fo := fo_k) (fy := fy211) (hw := hw) (stp := stp_k) (SP := SP) (WK := WK_k) (M := M214) (SK := SK_k) (nm := nm213) (ns := ns) (p := p) (v9 := v9_) hf_marks hf_spans hwk_k hmk212 hstk_k hq hki hne hot hra hf_subject hco hre hho (by omega) hp hr (by omega) hsu (by omega) (by omega) (by omega) (by omega) (by omega) (by omega) hst_k (by omega) (by omega) jsp (by omega) (by omega) hpm_ (ddC_0 (by omega)) (by omega)) (fun oc G2 h => by rcases h with ⟨_, _, _, _, _, _, _, _, _, _, _, h, _⟩ | ⟨_, _, _, _, _, _, _, _, _, _, _, _, h, _⟩ <;> exact ⟨_, h⟩) (by omega) m_MK_find ml_PW_251 im_MK_find se_MK_find c_MK hf_marks.2.2 (Nat.le_of_ble_eq_true rfl) d_PW_run_115 rfl ?_
        intro v G23 hq
        rcases hq with ⟨o24, df225, dp226, fo227, st228, sk229, ns230, WK231, M232, SK233, SP234, hv, hfk, hNf_marks, hNf_spans, hNwk_k, hNmk212, hNsk229, hq35, hq36, hq37, hq38, hq39, hq40, hq41, hq42⟩ | ⟨o43, df244, dp245, fo246, st247, sk248, ns249, WK250, M251, SK252, SP253, r54, hv, hfk, hNf_marks, hNf_spans, hNwk_k, hNmk212, hNsk248, hq55, hq56, hq57, hq58, hq59, hq60, hq61, hq62, hq63, hq64, hq65, hq66, hq67⟩
        · cases hv
          have hw_ := hfk.get hw_ (by decide)
          have h17 := hfk.get h17 (by decide)
          have hq := hfk.get hq (by simp only [List.mem_cons, List.not_mem_nil, or_false]; omega)
          have hki := hfk.get hki (by simp only [List.mem_cons, List.not_mem_nil, or_false]; omega)
          have hne := hfk.get hne (by simp only [List.mem_cons, List.not_mem_nil, or_false]; omega)
          have hot := hfk.get hot (by simp only [List.mem_cons, List.not_mem_nil, or_false]; omega)
          have hra := hfk.get hra (by simp only [List.mem_cons, List.not_mem_nil, or_false]; omega)
          have hna := hfk.get hna (by simp only [List.mem_cons, List.not_mem_nil, or_false]; omega)
          have hnl := hfk.get hnl (by simp only [List.mem_cons, List.not_mem_nil, or_false]; omega)
          have hf_subject := hfk.get hf_subject (by decide)
          have hby_ := hfk.get hby_ (by decide)
          have hco := hfk.get hco (by decide)
          have hre := hfk.get hre (by decide)
          have hho := hfk.get hho (by decide)
          have pthI_f_threads := thI.fr hfk pthI_f_threads (by decide) (by decide) (by decide) (by decide) (by decide) (by decide) (by decide) (by decide)
          have pomI_f_oneMind := omI.fr hfk pomI_f_oneMind (by decide) (by decide) (by decide) (by decide) (by decide) (by decide) (by decide) (by decide)
          have pstI_f_states := stI.fr hfk pstI_f_states (by decide) (by decide) (by decide) (by decide) (by decide) (by decide) (by decide) (by decide) (by decide)
          have hfr := hfr.tr hfk (by simp)
          have hq68 := hfk.1
          have hf_marks := hNf_marks
          have hf_spans := hNf_spans
          have hwk_k := hNwk_k
          have hmk212 := hNmk212
          have hsk229 := hNsk229
          change ab_W _ _ _ G23 118 [some (vR w_), some (vR q), some (vz hw), some (vz mch), some (vz p)] [vz (-1)] _
          have pmkI_f_marks : mkI o24 G23 f_marks nm213 ns230 := ⟨wk_k, mk212, sk229, w210, df225, dp226, fo227, fy211, hw, st228, WK231, M232, SK233, vR f_spans, vR q, vR f_subject, hf_marks, hwk_k, hmk212, hsk229, (by omega), hq36, (by omega)⟩
          have hmq_ : onq mi on := hmi
          have ppgB_q : pgB o24 G23 q lq nr cv cmp on mi := ⟨ki, ne, ot, cnt, fi, la, ra, ru, gr, wi, sz, fl, ve, na, nl, K, N, O, RR, NA, NL, hq, hki, hne, hot, hra, hna, hnl, (by omega), hpu, hp, hr, hch, (by omega), (by omega), (by omega), (by omega), (by omega), hpo, hmq_, (by omega), (by omega), jnl, hiv, hmn, jna⟩
          have psuI_f_subject : suI o24 G23 f_subject n m f := ⟨by_, co, re, ho, C, Rs, H, mc, hf_subject, hby_, hco, hre, hho, (by omega), hsu⟩
          refine zz_iret rfl d_PW_run_118 ?_
          rw [hQ]; exact ⟨_, _, _, _, _, _, _, _, rfl, hfr, hf_spans, pthI_f_threads, pmkI_f_marks, pomI_f_oneMind, pstI_f_states, psuI_f_subject, ppgB_q, (by omega), (by exact hq38), (by omega), (by omega), (by first | exact Or.inl rfl | exact Or.inl rfl)⟩
        · cases hv
          have hw_ := hfk.get hw_ (by decide)
          have h17 := hfk.get h17 (by decide)
          have hq := hfk.get hq (by simp only [List.mem_cons, List.not_mem_nil, or_false]; omega)
          have hki := hfk.get hki (by simp only [List.mem_cons, List.not_mem_nil, or_false]; omega)
          have hne := hfk.get hne (by simp only [List.mem_cons, List.not_mem_nil, or_false]; omega)
          have hot := hfk.get hot (by simp only [List.mem_cons, List.not_mem_nil, or_false]; omega)
          have hra := hfk.get hra (by simp only [List.mem_cons, List.not_mem_nil, or_false]; omega)
          have hna := hfk.get hna (by simp only [List.mem_cons, List.not_mem_nil, or_false]; omega)
          have hnl := hfk.get hnl (by simp only [List.mem_cons, List.not_mem_nil, or_false]; omega)
          have hf_subject := hfk.get hf_subject (by decide)
          have hby_ := hfk.get hby_ (by decide)
          have hco := hfk.get hco (by decide)
          have hre := hfk.get hre (by decide)
          have hho := hfk.get hho (by decide)
          have pthI_f_threads := thI.fr hfk pthI_f_threads (by decide) (by decide) (by decide) (by decide) (by decide) (by decide) (by decide) (by decide)
          have pomI_f_oneMind := omI.fr hfk pomI_f_oneMind (by decide) (by decide) (by decide) (by decide) (by decide) (by decide) (by decide) (by decide)
          have pstI_f_states := stI.fr hfk pstI_f_states (by decide) (by decide) (by decide) (by decide) (by decide) (by decide) (by decide) (by decide) (by decide)
          have hfr := hfr.tr hfk (by simp)
          have hq69 := hfk.1
          have hf_marks := hNf_marks
          have hf_spans := hNf_spans
          have hwk_k := hNwk_k
          have hmk212 := hNmk212
          have hsk248 := hNsk248
          change ab_W _ _ _ G23 118 [some (vR w_), some (vR q), some (vz hw), some (vz mch), some (vz p)] [vz r54] _
          have pmkI_f_marks : mkI o43 G23 f_marks nm213 ns249 := ⟨wk_k, mk212, sk248, w210, df244, dp245, fo246, fy211, hw, st247, WK250, M251, SK252, vR f_spans, vR q, vR f_subject, hf_marks, hwk_k, hmk212, hsk248, (by omega), hq56, (by omega)⟩
          have hmq_ : onq mi on := hmi
          have ppgB_q : pgB o43 G23 q lq nr cv cmp on mi := ⟨ki, ne, ot, cnt, fi, la, ra, ru, gr, wi, sz, fl, ve, na, nl, K, N, O, RR, NA, NL, hq, hki, hne, hot, hra, hna, hnl, (by omega), hpu, hp, hr, hch, (by omega), (by omega), (by omega), (by omega), (by omega), hpo, hmq_, (by omega), (by omega), jnl, hiv, hmn, jna⟩
          have psuI_f_subject : suI o43 G23 f_subject n m f := ⟨by_, co, re, ho, C, Rs, H, mc, hf_subject, hby_, hco, hre, hho, (by omega), hsu⟩
          refine zz_iret rfl d_PW_run_118 ?_
          rw [hQ]; exact ⟨_, _, _, _, _, _, _, _, rfl, hfr, hf_spans, pthI_f_threads, pmkI_f_marks, pomI_f_oneMind, pstI_f_states, psuI_f_subject, ppgB_q, (by omega), (by exact hq58), (by omega), (by omega), (by first | exact Or.inl rfl | exact Or.inl rfl)⟩
      · refine ab_aload_n d_PW_run_70 rfl ?_
        refine ab_getf (fs := [vR f_ready, vR f_tape, vR f_reader, vR f_programs, vR f_subject, vR f_spans, vR f_threads, vR f_marks, vR f_oneMind, vR f_states, vR f_latest, vR f_matches, vR f_pieces, vR f_template, vR f_result, vR f_spare, vz cmp, vz ovs]) f_PW_69 d_PW_run_71 hw_.2.2 rfl ?_
        refine ab_aload_n d_PW_run_74 rfl ?_
        refine ab_aload_n d_PW_run_75 rfl ?_
        refine ab_getf (fs := [vR f_ready, vR f_tape, vR f_reader, vR f_programs, vR f_subject, vR f_spans, vR f_threads, vR f_marks, vR f_oneMind, vR f_states, vR f_latest, vR f_matches, vR f_pieces, vR f_template, vR f_result, vR f_spare, vz cmp, vz ovs]) f_PW_38 d_PW_run_76 hw_.2.2 rfl ?_
        refine ab_iload_n d_PW_run_79 rfl ?_
        refine ab_iload d_PW_run_80 rfl ?_
        obtain ⟨cu_s, eg_s, po_s, bg_s, bd_s, sd_s, se__s, stk_s, mst_s, q0_s, vr_s, ro_s, cn_s, ct_s, sc_s, sta_s, arv_s, stp_s, CU_s, EG_s, PO_s, BG_s, BD_s, SD_s, SE_s, SK_s, hf_states, hcu_s, heg_s, hpo_s, hbg_s, hbd_s, hsd_s, hse__s, hstk_s, jcu_s, ccn_s, cms_s, cvr_s, jbg_s, jpo_s, jbd_s, jeg_s, cro_s⟩ := pstI_f_states
        refine ab_callV (d' := d - 1) (as := [vR q, vR f_subject, vz hw, vz p]) (st := []) (r := _) (z_ST_tell (o := o) (a := f_states) (cu := cu_s) (eg := eg_s) (po := po_s) (bg := bg_s) (bd := bd_s) (sd := sd_s) (se_ := se__s) (stk := stk_s) (mst := mst_s) (q0 := q0_s) (vr := vr_s) (ro := ro_s) (cn := cn_s) (ct := ct_s) (sc := sc_s) (sta := sta_s) (arv := arv_s) (stp := stp_s) (CU := CU_s) (EG := EG_s) (PO := PO_s) (BG := BG_s) (BD := BD_s) (SD := SD_s) (SE := SE_s) (SK := SK_s) (q := q) (lq := lq) (ki := ki) (ne := ne) (ot := ot) (cnt := cnt) (fi := fi) (la := la) (ra := ra) (ru := ru) (gr := gr) (wi := wi) (sz := sz) (fl := fl) (ve := ve) (mi := mi) (na := na) (nl := nl) (K := K) (N := N) (O := O) (RR := RR) (nr := nr) (s := f_subject) (by_ := by_) (co := co) (re := re) (ho := ho) (n := n) (f := f) (C := C) (Rs := Rs) (m := m) (mc := mc) (p := p) (hw := hw) (vc := (cv vr_s)) hf_states hcu_s heg_s hpo_s hbg_s hbd_s hsd_s hse__s hstk_s h17 hq hki hne hot hra hf_subject hby_ hco hre (by omega) hp hr (by omega) hch jcu_s (by omega) (by omega) (by omega) (fun h => by rw [h]; exact hvc) jbg_s jpo_s jeg_s jbd_s (by omega) (by omega) (by omega) hsu hsu.1 (by omega) (by omega) (by omega) (by omega) (by omega)) (fun oc G2 h => by rcases h with ⟨_, _, _, _, _, _, _, _, _, _, _, _, _, _, _, _, _, h, _⟩ <;> exact ⟨_, h⟩) (by omega) m_ST_tell ml_PW_224 im_ST_tell se_ST_tell c_ST hf_states.2.2 (Nat.le_of_ble_eq_true rfl) d_PW_run_82 rfl ?_
        intro v G70 hq
        rcases hq with ⟨v71, vr272, cn273, ro274, CU275, ct276, sc277, sta278, st279, ar280, EG281, PO282, BG283, BD284, SD285, SE286, SK287, hv, hfk, hlk, hsk, hNf_states, hNcu_s, hNeg_s, hNpo_s, hNbg_s, hNbd_s, hNsd_s, hNse__s, hNstk_s, hq88, hq89, hq90, hq91, hq92, hq93, hq94, hq95⟩
        cases hv
        have hw_ := hfk.get hw_ (by decide)
        have hf_spans := hfk.get hf_spans (by decide)
        have h17 := hfk.get h17 (by decide)
        have hq := hfk.get hq (by simp only [List.mem_cons, List.not_mem_nil, or_false]; omega)
        have hki := hfk.get hki (by simp only [List.mem_cons, List.not_mem_nil, or_false]; omega)
        have hne := hfk.get hne (by simp only [List.mem_cons, List.not_mem_nil, or_false]; omega)
        have hot := hfk.get hot (by simp only [List.mem_cons, List.not_mem_nil, or_false]; omega)
        have hra := hfk.get hra (by simp only [List.mem_cons, List.not_mem_nil, or_false]; omega)
        have hna := hfk.get hna (by simp only [List.mem_cons, List.not_mem_nil, or_false]; omega)
        have hnl := hfk.get hnl (by simp only [List.mem_cons, List.not_mem_nil, or_false]; omega)
        have hf_subject := hfk.get hf_subject (by decide)
        have hby_ := hfk.get hby_ (by decide)
        have hco := hfk.get hco (by decide)
        have hre := hfk.get hre (by decide)
        have hho := hfk.get hho (by decide)
        have pthI_f_threads := thI.fr hfk pthI_f_threads (by decide) (by decide) (by decide) (by decide) (by decide) (by decide) (by decide) (by decide)
        have pmkI_f_marks := mkI.fr hfk pmkI_f_marks (by decide) (by decide) (by decide) (by decide)
        have pomI_f_oneMind := omI.fr hfk pomI_f_oneMind (by decide) (by decide) (by decide) (by decide) (by decide) (by decide) (by decide) (by decide)
        have hfr := hfr.tr hfk (by simp)
        have hq96 := hlk
        have hq97 := hsk
        have hf_states := hNf_states
        have hcu_s := hNcu_s
        have heg_s := hNeg_s
        have hpo_s := hNpo_s
        have hbg_s := hNbg_s
        have hbd_s := hNbd_s
        have hsd_s := hNsd_s
        have hse__s := hNse__s
        have hstk_s := hNstk_s
        change ab_W _ _ _ G70 85 [some (vR w_), some (vR q), some (vz hw), some (vz mch), some (vz p)] [vz v71] _
        have pstI_f_states : stI o G70 f_states cv cmp := ⟨cu_s, eg_s, po_s, bg_s, bd_s, sd_s, se__s, stk_s, mst_s, vR q, vr272, ro274, cn273, ct276, sc277, sta278, ar280, st279, CU275, EG281, PO282, BG283, BD284, SD285, SE286, SK287, hf_states, hcu_s, heg_s, hpo_s, hbg_s, hbd_s, hsd_s, hse__s, hstk_s, hq94, (by omega), (by omega), (by omega), hq89, (by rw [show vr272 = ve by omega, hvc]; exact hq90), hq91, hq92, (by omega)⟩
        refine zz_if_ne (tgt := 90) d_PW_run_85 (by decide) (by omega) (fun c98 => ?_) (fun c98 => ?_)
        · refine ab_aload_n d_PW_run_90 rfl ?_
          refine ab_getf (fs := [vR f_ready, vR f_tape, vR f_reader, vR f_programs, vR f_subject, vR f_spans, vR f_threads, vR f_marks, vR f_oneMind, vR f_states, vR f_latest, vR f_matches, vR f_pieces, vR f_template, vR f_result, vR f_spare, vz cmp, vz ovs]) f_PW_55 d_PW_run_91 hw_.2.2 rfl ?_
          refine ab_aload_n d_PW_run_94 rfl ?_
          refine ab_aload_n d_PW_run_95 rfl ?_
          refine ab_getf (fs := [vR f_ready, vR f_tape, vR f_reader, vR f_programs, vR f_subject, vR f_spans, vR f_threads, vR f_marks, vR f_oneMind, vR f_states, vR f_latest, vR f_matches, vR f_pieces, vR f_template, vR f_result, vR f_spare, vz cmp, vz ovs]) f_PW_38 d_PW_run_96 hw_.2.2 rfl ?_
          refine ab_iload_n d_PW_run_99 rfl ?_
          refine ab_iload d_PW_run_100 rfl ?_
          refine ab_aload_n d_PW_run_102 rfl ?_
          refine ab_getf (fs := [vR f_ready, vR f_tape, vR f_reader, vR f_programs, vR f_subject, vR f_spans, vR f_threads, vR f_marks, vR f_oneMind, vR f_states, vR f_latest, vR f_matches, vR f_pieces, vR f_template, vR f_result, vR f_spare, vz cmp, vz ovs]) f_PW_42 d_PW_run_103 hw_.2.2 rfl ?_
          obtain ⟨wk_k, mk_k, stk_k, w_k, df_k, dp_k, fo_k, fy_k, hw_k, stp_k, WK_k, M_k, SK_k, sp0_k, q0_k, s0_k, hf_marks, hwk_k, hmk_k, hstk_k, cn_k, hst_k, cfo_k⟩ := pmkI_f_marks
          refine ab_callV (d' := d - 1) (as := [vR q, vR f_subject, vz hw, vz p, vR f_spans]) (st := []) (r := _) (z_MK_begin (o := o) (q := q) (lq := lq) (ki := ki) (ne := ne) (ot := ot) (cnt := cnt) (fi := fi) (la := la) (ra := ra) (ru := ru) (gr := gr) (wi := wi) (sz := sz) (fl := fl) (ve := ve) (mi := mi) (na := na) (nl := nl) (s := f_subject) (by_ := by_) (co := co) (re := re) (ho := ho) (n := n) (a := f_marks) (sp := f_spans) (wk := wk_k) (mk := mk_k) (stk := stk_k) (dp := dp_k) (fo := fo_k) (hw := hw) (stp := stp_k) (M := M_k) (nm := nm) (q0 := q0_k) (s0 := s0_k) (sp0 := sp0_k) (from_ := p) (hw0 := hw_k) (fy0 := fy_k) (w0 := w_k) (df0 := df_k) hf_marks hmk_k hq hf_subject (by omega) (by omega) (by omega) (by omega) (by omega) (by omega) (by omega)) (fun oc G2 h => by rcases h with ⟨_, _, _, _, _, _, h, _⟩ <;> exact ⟨_, h⟩) (by omega) m_MK_begin ml_PW_189 im_MK_begin se_MK_begin c_MK hf_marks.2.2 (Nat.le_of_ble_eq_true rfl) d_PW_run_106 rfl ?_
          intro v G99 hq
          rcases hq with ⟨o100, w2101, fy2102, mk2103, nm2104, M2105, hv, hfk, hNf_marks, hNmk2103, hq106, hq107, hq108, hq109, hq110, hq111, hq112⟩
          cases hv
          have hw_ := hfk.get hw_ (by decide)
          have hf_spans := hfk.get hf_spans (by decide)
          have h17 := hfk.get h17 (by decide)
          have hq := hfk.get hq (by simp only [List.mem_cons, List.not_mem_nil, or_false]; omega)
          have hki := hfk.get hki (by simp only [List.mem_cons, List.not_mem_nil, or_false]; omega)
          have hne := hfk.get hne (by simp only [List.mem_cons, List.not_mem_nil, or_false]; omega)
          have hot := hfk.get hot (by simp only [List.mem_cons, List.not_mem_nil, or_false]; omega)
          have hra := hfk.get hra (by simp only [List.mem_cons, List.not_mem_nil, or_false]; omega)
          have hna := hfk.get hna (by simp only [List.mem_cons, List.not_mem_nil, or_false]; omega)
          have hnl := hfk.get hnl (by simp only [List.mem_cons, List.not_mem_nil, or_false]; omega)
          have hf_subject := hfk.get hf_subject (by decide)
          have hby_ := hfk.get hby_ (by decide)
          have hco := hfk.get hco (by decide)
          have hre := hfk.get hre (by decide)
          have hho := hfk.get hho (by decide)
          have hwk_k := hfk.get hwk_k (by decide)
          have hstk_k := hfk.get hstk_k (by decide)
          have pthI_f_threads := thI.fr hfk pthI_f_threads (by decide) (by decide) (by decide) (by decide) (by decide) (by decide) (by decide) (by decide)
          have pomI_f_oneMind := omI.fr hfk pomI_f_oneMind (by decide) (by decide) (by decide) (by decide) (by decide) (by decide) (by decide) (by decide)
          have pstI_f_states := stI.fr hfk pstI_f_states (by decide) (by decide) (by decide) (by decide) (by decide) (by decide) (by decide) (by decide) (by decide)
          have hfr := hfr.tr hfk (by simp)
          have hq113 := hfk.1
          have hf_marks := hNf_marks
          have hmk2103 := hNmk2103
          change ab_W _ _ _ G99 109 [some (vR w_), some (vR q), some (vz hw), some (vz mch), some (vz p)] [] _
          have hzt2_ : zT nm2104 52026 ≤ 156078 := zT_le (c := 52026) (by omega) rfl
          refine ab_aload_n d_PW_run_109 rfl ?_
          refine ab_getf (fs := [vR f_ready, vR f_tape, vR f_reader, vR f_programs, vR f_subject, vR f_spans, vR f_threads, vR f_marks, vR f_oneMind, vR f_states, vR f_latest, vR f_matches, vR f_pieces, vR f_template, vR f_result, vR f_spare, vz cmp, vz ovs]) f_PW_55 d_PW_run_110 hw_.2.2 rfl ?_
          refine ab_iload d_PW_run_113 rfl ?_
          refine ab_callV (d' := d - 1) (as := [vz p]) (st := []) (r := _) (z_MK_find (o := o100) (q := q) (lq := lq) (ki := ki) (ne := ne) (ot := ot) (cnt := cnt) (fi := fi) (la := la) (ra := ra) (ru := ru) (gr := gr) (wi := wi) (sz := sz) (fl := fl) (ve := ve) (mi := mi) (na := na) (nl := nl) (K := K) (N := N) (O := O) (RR := RR) (nr := nr) (s := f_subject) (by_ := by_) (co := co) (re := re) (ho := ho) (n := n) (C := C) (Rs := Rs) (H := H) (mc := mc) (a := f_marks) (sp := f_spans) (wk := wk_k) (mk := mk2103) (stk := stk_k) (w := w2101) (df := p) (dp := dp_k) (fo := fo_k) (fy := fy2102) (hw := hw) (stp := stp_k) (SP := SP) (WK := WK_k) (M := M2105) (SK := SK_k) (nm := nm2104) (ns := ns) (p := p) (v9 := v9_) hf_marks hf_spans hwk_k hmk2103 hstk_k hq hki hne hot hra hf_subject hco hre hho (by omega) hp hr (by omega) hsu (by omega) (by omega) (by omega) (by omega) (by omega) (by omega) hst_k (by omega) (by omega) jsp (by omega) (by omega) hpm_ (ddC_0 (by omega)) (by omega)) (fun oc G2 h => by rcases h with ⟨_, _, _, _, _, _, _, _, _, _, _, h, _⟩ | ⟨_, _, _, _, _, _, _, _, _, _, _, _, h, _⟩ <;> exact ⟨_, h⟩) (by omega) m_MK_find ml_PW_251 im_MK_find se_MK_find c_MK hf_marks.2.2 (Nat.le_of_ble_eq_true rfl) d_PW_run_115 rfl ?_
          intro v G114 hq
          rcases hq with ⟨o115, df2116, dp2117, fo2118, st2119, sk2120, ns2121, WK2122, M2123, SK2124, SP2125, hv, hfk, hNf_marks, hNf_spans, hNwk_k, hNmk2103, hNsk2120, hq126, hq127, hq128, hq129, hq130, hq131, hq132, hq133⟩ | ⟨o134, df2135, dp2136, fo2137, st2138, sk2139, ns2140, WK2141, M2142, SK2143, SP2144, r145, hv, hfk, hNf_marks, hNf_spans, hNwk_k, hNmk2103, hNsk2139, hq146, hq147, hq148, hq149, hq150, hq151, hq152, hq153, hq154, hq155, hq156, hq157, hq158⟩
          · cases hv
            have hw_ := hfk.get hw_ (by decide)
            have h17 := hfk.get h17 (by decide)
            have hq := hfk.get hq (by simp only [List.mem_cons, List.not_mem_nil, or_false]; omega)
            have hki := hfk.get hki (by simp only [List.mem_cons, List.not_mem_nil, or_false]; omega)
            have hne := hfk.get hne (by simp only [List.mem_cons, List.not_mem_nil, or_false]; omega)
            have hot := hfk.get hot (by simp only [List.mem_cons, List.not_mem_nil, or_false]; omega)
            have hra := hfk.get hra (by simp only [List.mem_cons, List.not_mem_nil, or_false]; omega)
            have hna := hfk.get hna (by simp only [List.mem_cons, List.not_mem_nil, or_false]; omega)
            have hnl := hfk.get hnl (by simp only [List.mem_cons, List.not_mem_nil, or_false]; omega)
            have hf_subject := hfk.get hf_subject (by decide)
            have hby_ := hfk.get hby_ (by decide)
            have hco := hfk.get hco (by decide)
            have hre := hfk.get hre (by decide)
            have hho := hfk.get hho (by decide)
            have pthI_f_threads := thI.fr hfk pthI_f_threads (by decide) (by decide) (by decide) (by decide) (by decide) (by decide) (by decide) (by decide)
            have pomI_f_oneMind := omI.fr hfk pomI_f_oneMind (by decide) (by decide) (by decide) (by decide) (by decide) (by decide) (by decide) (by decide)
            have pstI_f_states := stI.fr hfk pstI_f_states (by decide) (by decide) (by decide) (by decide) (by decide) (by decide) (by decide) (by decide) (by decide)
            have hfr := hfr.tr hfk (by simp)
            have hq159 := hfk.1
            have hf_marks := hNf_marks
            have hf_spans := hNf_spans
            have hwk_k := hNwk_k
            have hmk2103 := hNmk2103
            have hsk2120 := hNsk2120
            change ab_W _ _ _ G114 118 [some (vR w_), some (vR q), some (vz hw), some (vz mch), some (vz p)] [vz (-1)] _
            have pmkI_f_marks : mkI o115 G114 f_marks nm2104 ns2121 := ⟨wk_k, mk2103, sk2120, w2101, df2116, dp2117, fo2118, fy2102, hw, st2119, WK2122, M2123, SK2124, vR f_spans, vR q, vR f_subject, hf_marks, hwk_k, hmk2103, hsk2120, (by omega), hq127, (by omega)⟩
            have hmq_ : onq mi on := hmi
            have ppgB_q : pgB o115 G114 q lq nr cv cmp on mi := ⟨ki, ne, ot, cnt, fi, la, ra, ru, gr, wi, sz, fl, ve, na, nl, K, N, O, RR, NA, NL, hq, hki, hne, hot, hra, hna, hnl, (by omega), hpu, hp, hr, hch, (by omega), (by omega), (by omega), (by omega), (by omega), hpo, hmq_, (by omega), (by omega), jnl, hiv, hmn, jna⟩
            have psuI_f_subject : suI o115 G114 f_subject n m f := ⟨by_, co, re, ho, C, Rs, H, mc, hf_subject, hby_, hco, hre, hho, (by omega), hsu⟩
            refine zz_iret rfl d_PW_run_118 ?_
            rw [hQ]; exact ⟨_, _, _, _, _, _, _, _, rfl, hfr, hf_spans, pthI_f_threads, pmkI_f_marks, pomI_f_oneMind, pstI_f_states, psuI_f_subject, ppgB_q, (by omega), (by exact hq129), (by omega), (by omega), (by first | exact Or.inl rfl | exact Or.inl rfl)⟩
          · cases hv
            have hw_ := hfk.get hw_ (by decide)
            have h17 := hfk.get h17 (by decide)
            have hq := hfk.get hq (by simp only [List.mem_cons, List.not_mem_nil, or_false]; omega)
            have hki := hfk.get hki (by simp only [List.mem_cons, List.not_mem_nil, or_false]; omega)
            have hne := hfk.get hne (by simp only [List.mem_cons, List.not_mem_nil, or_false]; omega)
            have hot := hfk.get hot (by simp only [List.mem_cons, List.not_mem_nil, or_false]; omega)
            have hra := hfk.get hra (by simp only [List.mem_cons, List.not_mem_nil, or_false]; omega)
            have hna := hfk.get hna (by simp only [List.mem_cons, List.not_mem_nil, or_false]; omega)
            have hnl := hfk.get hnl (by simp only [List.mem_cons, List.not_mem_nil, or_false]; omega)
            have hf_subject := hfk.get hf_subject (by decide)
            have hby_ := hfk.get hby_ (by decide)
            have hco := hfk.get hco (by decide)
            have hre := hfk.get hre (by decide)
            have hho := hfk.get hho (by decide)
            have pthI_f_threads := thI.fr hfk pthI_f_threads (by decide) (by decide) (by decide) (by decide) (by decide) (by decide) (by decide) (by decide)
            have pomI_f_oneMind := omI.fr hfk pomI_f_oneMind (by decide) (by decide) (by decide) (by decide) (by decide) (by decide) (by decide) (by decide)
            have pstI_f_states := stI.fr hfk pstI_f_states (by decide) (by decide) (by decide) (by decide) (by decide) (by decide) (by decide) (by decide) (by decide)
            have hfr := hfr.tr hfk (by simp)
            have hq160 := hfk.1
            have hf_marks := hNf_marks
            have hf_spans := hNf_spans
            have hwk_k := hNwk_k
            have hmk2103 := hNmk2103
            have hsk2139 := hNsk2139
            change ab_W _ _ _ G114 118 [some (vR w_), some (vR q), some (vz hw), some (vz mch), some (vz p)] [vz r145] _
            have pmkI_f_marks : mkI o134 G114 f_marks nm2104 ns2140 := ⟨wk_k, mk2103, sk2139, w2101, df2135, dp2136, fo2137, fy2102, hw, st2138, WK2141, M2142, SK2143, vR f_spans, vR q, vR f_subject, hf_marks, hwk_k, hmk2103, hsk2139, (by omega), hq147, (by omega)⟩
            have hmq_ : onq mi on := hmi
            have ppgB_q : pgB o134 G114 q lq nr cv cmp on mi := ⟨ki, ne, ot, cnt, fi, la, ra, ru, gr, wi, sz, fl, ve, na, nl, K, N, O, RR, NA, NL, hq, hki, hne, hot, hra, hna, hnl, (by omega), hpu, hp, hr, hch, (by omega), (by omega), (by omega), (by omega), (by omega), hpo, hmq_, (by omega), (by omega), jnl, hiv, hmn, jna⟩
            have psuI_f_subject : suI o134 G114 f_subject n m f := ⟨by_, co, re, ho, C, Rs, H, mc, hf_subject, hby_, hco, hre, hho, (by omega), hsu⟩
            refine zz_iret rfl d_PW_run_118 ?_
            rw [hQ]; exact ⟨_, _, _, _, _, _, _, _, rfl, hfr, hf_spans, pthI_f_threads, pmkI_f_marks, pomI_f_oneMind, pstI_f_states, psuI_f_subject, ppgB_q, (by omega), (by exact hq149), (by omega), (by omega), (by first | exact Or.inl rfl | exact Or.inl rfl)⟩
        · refine zz_iconst d_PW_run_88 ?_
          have hmq_ : onq mi on := hmi
          have ppgB_q : pgB o G70 q lq nr cv cmp on mi := ⟨ki, ne, ot, cnt, fi, la, ra, ru, gr, wi, sz, fl, ve, na, nl, K, N, O, RR, NA, NL, hq, hki, hne, hot, hra, hna, hnl, (by omega), hpu, hp, hr, hch, (by omega), (by omega), (by omega), (by omega), (by omega), hpo, hmq_, (by omega), (by omega), jnl, hiv, hmn, jna⟩
          have psuI_f_subject : suI o G70 f_subject n m f := ⟨by_, co, re, ho, C, Rs, H, mc, hf_subject, hby_, hco, hre, hho, (by omega), hsu⟩
          refine zz_iret rfl d_PW_run_89 ?_
          rw [hQ]; exact ⟨_, _, _, _, _, _, _, _, rfl, hfr, hf_spans, pthI_f_threads, pmkI_f_marks, pomI_f_oneMind, pstI_f_states, psuI_f_subject, ppgB_q, (by omega), (by exact jsp), (by omega), (by omega), (by first | exact Or.inl rfl | exact Or.inl rfl)⟩
    · refine ab_iload_n d_PW_run_30 rfl ?_
      refine zz_if_eq (tgt := 65) d_PW_run_31 (by decide) (by omega) (fun c161 => ?_) (fun c161 => ?_)
      · refine ab_iload_n d_PW_run_65 rfl ?_
        refine zz_iconst d_PW_run_66 ?_
        refine zz_icmp_ne (tgt := 90) d_PW_run_67 (by decide) (by omega) (by decide) (fun c162 => ?_) (fun c162 => absurd c162 (by omega))
        refine ab_aload_n d_PW_run_90 rfl ?_
        refine ab_getf (fs := [vR f_ready, vR f_tape, vR f_reader, vR f_programs, vR f_subject, vR f_spans, vR f_threads, vR f_marks, vR f_oneMind, vR f_states, vR f_latest, vR f_matches, vR f_pieces, vR f_template, vR f_result, vR f_spare, vz cmp, vz ovs]) f_PW_55 d_PW_run_91 hw_.2.2 rfl ?_
        refine ab_aload_n d_PW_run_94 rfl ?_
        refine ab_aload_n d_PW_run_95 rfl ?_
        refine ab_getf (fs := [vR f_ready, vR f_tape, vR f_reader, vR f_programs, vR f_subject, vR f_spans, vR f_threads, vR f_marks, vR f_oneMind, vR f_states, vR f_latest, vR f_matches, vR f_pieces, vR f_template, vR f_result, vR f_spare, vz cmp, vz ovs]) f_PW_38 d_PW_run_96 hw_.2.2 rfl ?_
        refine ab_iload_n d_PW_run_99 rfl ?_
        refine ab_iload d_PW_run_100 rfl ?_
        refine ab_aload_n d_PW_run_102 rfl ?_
        refine ab_getf (fs := [vR f_ready, vR f_tape, vR f_reader, vR f_programs, vR f_subject, vR f_spans, vR f_threads, vR f_marks, vR f_oneMind, vR f_states, vR f_latest, vR f_matches, vR f_pieces, vR f_template, vR f_result, vR f_spare, vz cmp, vz ovs]) f_PW_42 d_PW_run_103 hw_.2.2 rfl ?_
        obtain ⟨wk_k, mk_k, stk_k, w_k, df_k, dp_k, fo_k, fy_k, hw_k, stp_k, WK_k, M_k, SK_k, sp0_k, q0_k, s0_k, hf_marks, hwk_k, hmk_k, hstk_k, cn_k, hst_k, cfo_k⟩ := pmkI_f_marks
        refine ab_callV (d' := d - 1) (as := [vR q, vR f_subject, vz hw, vz p, vR f_spans]) (st := []) (r := _) (z_MK_begin (o := o) (q := q) (lq := lq) (ki := ki) (ne := ne) (ot := ot) (cnt := cnt) (fi := fi) (la := la) (ra := ra) (ru := ru) (gr := gr) (wi := wi) (sz := sz) (fl := fl) (ve := ve) (mi := mi) (na := na) (nl := nl) (s := f_subject) (by_ := by_) (co := co) (re := re) (ho := ho) (n := n) (a := f_marks) (sp := f_spans) (wk := wk_k) (mk := mk_k) (stk := stk_k) (dp := dp_k) (fo := fo_k) (hw := hw) (stp := stp_k) (M := M_k) (nm := nm) (q0 := q0_k) (s0 := s0_k) (sp0 := sp0_k) (from_ := p) (hw0 := hw_k) (fy0 := fy_k) (w0 := w_k) (df0 := df_k) hf_marks hmk_k hq hf_subject (by omega) (by omega) (by omega) (by omega) (by omega) (by omega) (by omega)) (fun oc G2 h => by rcases h with ⟨_, _, _, _, _, _, h, _⟩ <;> exact ⟨_, h⟩) (by omega) m_MK_begin ml_PW_189 im_MK_begin se_MK_begin c_MK hf_marks.2.2 (Nat.le_of_ble_eq_true rfl) d_PW_run_106 rfl ?_
        intro v G163 hq
        rcases hq with ⟨o164, w2165, fy2166, mk2167, nm2168, M2169, hv, hfk, hNf_marks, hNmk2167, hq170, hq171, hq172, hq173, hq174, hq175, hq176⟩
        cases hv
        have hw_ := hfk.get hw_ (by decide)
        have hf_spans := hfk.get hf_spans (by decide)
        have h17 := hfk.get h17 (by decide)
        have hq := hfk.get hq (by simp only [List.mem_cons, List.not_mem_nil, or_false]; omega)
        have hki := hfk.get hki (by simp only [List.mem_cons, List.not_mem_nil, or_false]; omega)
        have hne := hfk.get hne (by simp only [List.mem_cons, List.not_mem_nil, or_false]; omega)
        have hot := hfk.get hot (by simp only [List.mem_cons, List.not_mem_nil, or_false]; omega)
        have hra := hfk.get hra (by simp only [List.mem_cons, List.not_mem_nil, or_false]; omega)
        have hna := hfk.get hna (by simp only [List.mem_cons, List.not_mem_nil, or_false]; omega)
        have hnl := hfk.get hnl (by simp only [List.mem_cons, List.not_mem_nil, or_false]; omega)
        have hf_subject := hfk.get hf_subject (by decide)
        have hby_ := hfk.get hby_ (by decide)
        have hco := hfk.get hco (by decide)
        have hre := hfk.get hre (by decide)
        have hho := hfk.get hho (by decide)
        have hwk_k := hfk.get hwk_k (by decide)
        have hstk_k := hfk.get hstk_k (by decide)
        have pthI_f_threads := thI.fr hfk pthI_f_threads (by decide) (by decide) (by decide) (by decide) (by decide) (by decide) (by decide) (by decide)
        have pomI_f_oneMind := omI.fr hfk pomI_f_oneMind (by decide) (by decide) (by decide) (by decide) (by decide) (by decide) (by decide) (by decide)
        have pstI_f_states := stI.fr hfk pstI_f_states (by decide) (by decide) (by decide) (by decide) (by decide) (by decide) (by decide) (by decide) (by decide)
        have hfr := hfr.tr hfk (by simp)
        have hq177 := hfk.1
        have hf_marks := hNf_marks
        have hmk2167 := hNmk2167
        change ab_W _ _ _ G163 109 [some (vR w_), some (vR q), some (vz hw), some (vz mch), some (vz p)] [] _
        have hzt2_ : zT nm2168 52026 ≤ 156078 := zT_le (c := 52026) (by omega) rfl
        refine ab_aload_n d_PW_run_109 rfl ?_
        refine ab_getf (fs := [vR f_ready, vR f_tape, vR f_reader, vR f_programs, vR f_subject, vR f_spans, vR f_threads, vR f_marks, vR f_oneMind, vR f_states, vR f_latest, vR f_matches, vR f_pieces, vR f_template, vR f_result, vR f_spare, vz cmp, vz ovs]) f_PW_55 d_PW_run_110 hw_.2.2 rfl ?_
        refine ab_iload d_PW_run_113 rfl ?_
        refine ab_callV (d' := d - 1) (as := [vz p]) (st := []) (r := _) (z_MK_find (o := o164) (q := q) (lq := lq) (ki := ki) (ne := ne) (ot := ot) (cnt := cnt) (fi := fi) (la := la) (ra := ra) (ru := ru) (gr := gr) (wi := wi) (sz := sz) (fl := fl) (ve := ve) (mi := mi) (na := na) (nl := nl) (K := K) (N := N) (O := O) (RR := RR) (nr := nr) (s := f_subject) (by_ := by_) (co := co) (re := re) (ho := ho) (n := n) (C := C) (Rs := Rs) (H := H) (mc := mc) (a := f_marks) (sp := f_spans) (wk := wk_k) (mk := mk2167) (stk := stk_k) (w := w2165) (df := p) (dp := dp_k) (fo := fo_k) (fy := fy2166) (hw := hw) (stp := stp_k) (SP := SP) (WK := WK_k) (M := M2169) (SK := SK_k) (nm := nm2168) (ns := ns) (p := p) (v9 := v9_) hf_marks hf_spans hwk_k hmk2167 hstk_k hq hki hne hot hra hf_subject hco hre hho (by omega) hp hr (by omega) hsu (by omega) (by omega) (by omega) (by omega) (by omega) (by omega) hst_k (by omega) (by omega) jsp (by omega) (by omega) hpm_ (ddC_0 (by omega)) (by omega)) (fun oc G2 h => by rcases h with ⟨_, _, _, _, _, _, _, _, _, _, _, h, _⟩ | ⟨_, _, _, _, _, _, _, _, _, _, _, _, h, _⟩ <;> exact ⟨_, h⟩) (by omega) m_MK_find ml_PW_251 im_MK_find se_MK_find c_MK hf_marks.2.2 (Nat.le_of_ble_eq_true rfl) d_PW_run_115 rfl ?_
        intro v G178 hq
        rcases hq with ⟨o179, df2180, dp2181, fo2182, st2183, sk2184, ns2185, WK2186, M2187, SK2188, SP2189, hv, hfk, hNf_marks, hNf_spans, hNwk_k, hNmk2167, hNsk2184, hq190, hq191, hq192, hq193, hq194, hq195, hq196, hq197⟩ | ⟨o198, df2199, dp2200, fo2201, st2202, sk2203, ns2204, WK2205, M2206, SK2207, SP2208, r209, hv, hfk, hNf_marks, hNf_spans, hNwk_k, hNmk2167, hNsk2203, hq210, hq211, hq212, hq213, hq214, hq215, hq216, hq217, hq218, hq219, hq220, hq221, hq222⟩
        · cases hv
          have hw_ := hfk.get hw_ (by decide)
          have h17 := hfk.get h17 (by decide)
          have hq := hfk.get hq (by simp only [List.mem_cons, List.not_mem_nil, or_false]; omega)
          have hki := hfk.get hki (by simp only [List.mem_cons, List.not_mem_nil, or_false]; omega)
          have hne := hfk.get hne (by simp only [List.mem_cons, List.not_mem_nil, or_false]; omega)
          have hot := hfk.get hot (by simp only [List.mem_cons, List.not_mem_nil, or_false]; omega)
          have hra := hfk.get hra (by simp only [List.mem_cons, List.not_mem_nil, or_false]; omega)
          have hna := hfk.get hna (by simp only [List.mem_cons, List.not_mem_nil, or_false]; omega)
          have hnl := hfk.get hnl (by simp only [List.mem_cons, List.not_mem_nil, or_false]; omega)
          have hf_subject := hfk.get hf_subject (by decide)
          have hby_ := hfk.get hby_ (by decide)
          have hco := hfk.get hco (by decide)
          have hre := hfk.get hre (by decide)
          have hho := hfk.get hho (by decide)
          have pthI_f_threads := thI.fr hfk pthI_f_threads (by decide) (by decide) (by decide) (by decide) (by decide) (by decide) (by decide) (by decide)
          have pomI_f_oneMind := omI.fr hfk pomI_f_oneMind (by decide) (by decide) (by decide) (by decide) (by decide) (by decide) (by decide) (by decide)
          have pstI_f_states := stI.fr hfk pstI_f_states (by decide) (by decide) (by decide) (by decide) (by decide) (by decide) (by decide) (by decide) (by decide)
          have hfr := hfr.tr hfk (by simp)
          have hq223 := hfk.1
          have hf_marks := hNf_marks
          have hf_spans := hNf_spans
          have hwk_k := hNwk_k
          have hmk2167 := hNmk2167
          have hsk2184 := hNsk2184
          change ab_W _ _ _ G178 118 [some (vR w_), some (vR q), some (vz hw), some (vz mch), some (vz p)] [vz (-1)] _
          have pmkI_f_marks : mkI o179 G178 f_marks nm2168 ns2185 := ⟨wk_k, mk2167, sk2184, w2165, df2180, dp2181, fo2182, fy2166, hw, st2183, WK2186, M2187, SK2188, vR f_spans, vR q, vR f_subject, hf_marks, hwk_k, hmk2167, hsk2184, (by omega), hq191, (by omega)⟩
          have hmq_ : onq mi on := hmi
          have ppgB_q : pgB o179 G178 q lq nr cv cmp on mi := ⟨ki, ne, ot, cnt, fi, la, ra, ru, gr, wi, sz, fl, ve, na, nl, K, N, O, RR, NA, NL, hq, hki, hne, hot, hra, hna, hnl, (by omega), hpu, hp, hr, hch, (by omega), (by omega), (by omega), (by omega), (by omega), hpo, hmq_, (by omega), (by omega), jnl, hiv, hmn, jna⟩
          have psuI_f_subject : suI o179 G178 f_subject n m f := ⟨by_, co, re, ho, C, Rs, H, mc, hf_subject, hby_, hco, hre, hho, (by omega), hsu⟩
          refine zz_iret rfl d_PW_run_118 ?_
          rw [hQ]; exact ⟨_, _, _, _, _, _, _, _, rfl, hfr, hf_spans, pthI_f_threads, pmkI_f_marks, pomI_f_oneMind, pstI_f_states, psuI_f_subject, ppgB_q, (by omega), (by exact hq193), (by omega), (by omega), (by first | exact Or.inl rfl | exact Or.inl rfl)⟩
        · cases hv
          have hw_ := hfk.get hw_ (by decide)
          have h17 := hfk.get h17 (by decide)
          have hq := hfk.get hq (by simp only [List.mem_cons, List.not_mem_nil, or_false]; omega)
          have hki := hfk.get hki (by simp only [List.mem_cons, List.not_mem_nil, or_false]; omega)
          have hne := hfk.get hne (by simp only [List.mem_cons, List.not_mem_nil, or_false]; omega)
          have hot := hfk.get hot (by simp only [List.mem_cons, List.not_mem_nil, or_false]; omega)
          have hra := hfk.get hra (by simp only [List.mem_cons, List.not_mem_nil, or_false]; omega)
          have hna := hfk.get hna (by simp only [List.mem_cons, List.not_mem_nil, or_false]; omega)
          have hnl := hfk.get hnl (by simp only [List.mem_cons, List.not_mem_nil, or_false]; omega)
          have hf_subject := hfk.get hf_subject (by decide)
          have hby_ := hfk.get hby_ (by decide)
          have hco := hfk.get hco (by decide)
          have hre := hfk.get hre (by decide)
          have hho := hfk.get hho (by decide)
          have pthI_f_threads := thI.fr hfk pthI_f_threads (by decide) (by decide) (by decide) (by decide) (by decide) (by decide) (by decide) (by decide)
          have pomI_f_oneMind := omI.fr hfk pomI_f_oneMind (by decide) (by decide) (by decide) (by decide) (by decide) (by decide) (by decide) (by decide)
          have pstI_f_states := stI.fr hfk pstI_f_states (by decide) (by decide) (by decide) (by decide) (by decide) (by decide) (by decide) (by decide) (by decide)
          have hfr := hfr.tr hfk (by simp)
          have hq224 := hfk.1
          have hf_marks := hNf_marks
          have hf_spans := hNf_spans
          have hwk_k := hNwk_k
          have hmk2167 := hNmk2167
          have hsk2203 := hNsk2203
          change ab_W _ _ _ G178 118 [some (vR w_), some (vR q), some (vz hw), some (vz mch), some (vz p)] [vz r209] _
          have pmkI_f_marks : mkI o198 G178 f_marks nm2168 ns2204 := ⟨wk_k, mk2167, sk2203, w2165, df2199, dp2200, fo2201, fy2166, hw, st2202, WK2205, M2206, SK2207, vR f_spans, vR q, vR f_subject, hf_marks, hwk_k, hmk2167, hsk2203, (by omega), hq211, (by omega)⟩
          have hmq_ : onq mi on := hmi
          have ppgB_q : pgB o198 G178 q lq nr cv cmp on mi := ⟨ki, ne, ot, cnt, fi, la, ra, ru, gr, wi, sz, fl, ve, na, nl, K, N, O, RR, NA, NL, hq, hki, hne, hot, hra, hna, hnl, (by omega), hpu, hp, hr, hch, (by omega), (by omega), (by omega), (by omega), (by omega), hpo, hmq_, (by omega), (by omega), jnl, hiv, hmn, jna⟩
          have psuI_f_subject : suI o198 G178 f_subject n m f := ⟨by_, co, re, ho, C, Rs, H, mc, hf_subject, hby_, hco, hre, hho, (by omega), hsu⟩
          refine zz_iret rfl d_PW_run_118 ?_
          rw [hQ]; exact ⟨_, _, _, _, _, _, _, _, rfl, hfr, hf_spans, pthI_f_threads, pmkI_f_marks, pomI_f_oneMind, pstI_f_states, psuI_f_subject, ppgB_q, (by omega), (by exact hq213), (by omega), (by omega), (by first | exact Or.inl rfl | exact Or.inl rfl)⟩
      · refine ab_aload_n d_PW_run_34 rfl ?_
        refine ab_getf (fs := [vR f_ready, vR f_tape, vR f_reader, vR f_programs, vR f_subject, vR f_spans, vR f_threads, vR f_marks, vR f_oneMind, vR f_states, vR f_latest, vR f_matches, vR f_pieces, vR f_template, vR f_result, vR f_spare, vz cmp, vz ovs]) f_PW_62 d_PW_run_35 hw_.2.2 rfl ?_
        refine ab_aload_n d_PW_run_38 rfl ?_
        obtain ⟨fsR, hR⟩ := pomI_f_oneMind.recv
        refine ab_callV (d' := d - 1) (as := [vR q]) (st := []) (r := _) (z_OM_suits (o := o) (a := f_oneMind) (on := on) (nt := nt) (q := q) (lq := lq) (ki := ki) (ne := ne) (ot := ot) (cnt := cnt) (fi := fi) (la := la) (ra := ra) (ru := ru) (gr := gr) (wi := wi) (sz := sz) (fl := fl) (ve := ve) (mi := mi) (na := na) (nl := nl) (K := K) (N := N) (O := O) (RR := RR) (nr := nr) hq hki hne hot hra pomI_f_oneMind (by omega) (by omega) hpu hp hr (by omega) (by omega) (by omega) (by omega) hpo hmi (by omega) (by omega) (by omega)) (fun oc G2 h => by rcases h with ⟨_, _, _, _, h, _⟩ | ⟨_, _, _, _, h, _⟩ <;> exact ⟨_, h⟩) (by omega) m_OM_suits ml_PW_247 im_OM_suits se_OM_suits c_OM hR (Nat.le_of_ble_eq_true rfl) d_PW_run_39 rfl ?_
        intro v G225 hq
        rcases hq with ⟨o226, on2227, nt2228, mi2229, hv, hfk, hNq, hNki, hNne, hNot, hNra, pNomI_f_oneMind, hq230, hq231, hq232, hq233, hq234, hq235⟩ | ⟨o236, on2237, nt2238, mi2239, hv, hfk, hNq, hNki, hNne, hNot, hNra, pNomI_f_oneMind, hq240, hq241, hq242, hq243, hq244, hq245, hq246, hq247⟩
        · cases hv
          have hw_ := hfk.get hw_ (by simp only [List.mem_cons, List.not_mem_nil, or_false]; omega)
          have hf_spans := hfk.get hf_spans (by simp only [List.mem_cons, List.not_mem_nil, or_false]; omega)
          have h17 := hfk.get h17 (by simp only [List.mem_cons, List.not_mem_nil, or_false]; omega)
          have hna := hfk.get hna (by simp only [List.mem_cons, List.not_mem_nil, or_false]; omega)
          have hnl := hfk.get hnl (by simp only [List.mem_cons, List.not_mem_nil, or_false]; omega)
          have hf_subject := hfk.get hf_subject (by simp only [List.mem_cons, List.not_mem_nil, or_false]; omega)
          have hby_ := hfk.get hby_ (by simp only [List.mem_cons, List.not_mem_nil, or_false]; omega)
          have hco := hfk.get hco (by simp only [List.mem_cons, List.not_mem_nil, or_false]; omega)
          have hre := hfk.get hre (by simp only [List.mem_cons, List.not_mem_nil, or_false]; omega)
          have hho := hfk.get hho (by simp only [List.mem_cons, List.not_mem_nil, or_false]; omega)
          have pthI_f_threads := thI.fr hfk pthI_f_threads (by simp only [List.mem_cons, List.not_mem_nil, or_false]; omega) (by simp only [List.mem_cons, List.not_mem_nil, or_false]; omega) (by simp only [List.mem_cons, List.not_mem_nil, or_false]; omega) (by simp only [List.mem_cons, List.not_mem_nil, or_false]; omega) (by simp only [List.mem_cons, List.not_mem_nil, or_false]; omega) (by simp only [List.mem_cons, List.not_mem_nil, or_false]; omega) (by simp only [List.mem_cons, List.not_mem_nil, or_false]; omega) (by simp only [List.mem_cons, List.not_mem_nil, or_false]; omega)
          have pmkI_f_marks := mkI.fr hfk pmkI_f_marks (by simp only [List.mem_cons, List.not_mem_nil, or_false]; omega) (by simp only [List.mem_cons, List.not_mem_nil, or_false]; omega) (by simp only [List.mem_cons, List.not_mem_nil, or_false]; omega) (by simp only [List.mem_cons, List.not_mem_nil, or_false]; omega)
          have pstI_f_states := stI.fr hfk pstI_f_states (by simp only [List.mem_cons, List.not_mem_nil, or_false]; omega) (by simp only [List.mem_cons, List.not_mem_nil, or_false]; omega) (by simp only [List.mem_cons, List.not_mem_nil, or_false]; omega) (by simp only [List.mem_cons, List.not_mem_nil, or_false]; omega) (by simp only [List.mem_cons, List.not_mem_nil, or_false]; omega) (by simp only [List.mem_cons, List.not_mem_nil, or_false]; omega) (by simp only [List.mem_cons, List.not_mem_nil, or_false]; omega) (by simp only [List.mem_cons, List.not_mem_nil, or_false]; omega) (by simp only [List.mem_cons, List.not_mem_nil, or_false]; omega)
          have pomI_f_oneMind := pNomI_f_oneMind
          have hfr := hfr.tr hfk (by simp)
          have hq248 := hfk.1
          have hq := hNq
          have hki := hNki
          have hne := hNne
          have hot := hNot
          have hra := hNra
          change ab_W _ _ _ G225 42 [some (vR w_), some (vR q), some (vz hw), some (vz mch), some (vz p)] [vz 0] _
          refine zz_if_eq (tgt := 65) d_PW_run_42 (by decide) (by decide) (fun c250 => ?_) (fun c250 => absurd c250 (by decide))
          refine ab_iload_n d_PW_run_65 rfl ?_
          refine zz_iconst d_PW_run_66 ?_
          refine zz_icmp_ne (tgt := 90) d_PW_run_67 (by decide) (by omega) (by decide) (fun c251 => ?_) (fun c251 => absurd c251 (by omega))
          refine ab_aload_n d_PW_run_90 rfl ?_
          refine ab_getf (fs := [vR f_ready, vR f_tape, vR f_reader, vR f_programs, vR f_subject, vR f_spans, vR f_threads, vR f_marks, vR f_oneMind, vR f_states, vR f_latest, vR f_matches, vR f_pieces, vR f_template, vR f_result, vR f_spare, vz cmp, vz ovs]) f_PW_55 d_PW_run_91 hw_.2.2 rfl ?_
          refine ab_aload_n d_PW_run_94 rfl ?_
          refine ab_aload_n d_PW_run_95 rfl ?_
          refine ab_getf (fs := [vR f_ready, vR f_tape, vR f_reader, vR f_programs, vR f_subject, vR f_spans, vR f_threads, vR f_marks, vR f_oneMind, vR f_states, vR f_latest, vR f_matches, vR f_pieces, vR f_template, vR f_result, vR f_spare, vz cmp, vz ovs]) f_PW_38 d_PW_run_96 hw_.2.2 rfl ?_
          refine ab_iload_n d_PW_run_99 rfl ?_
          refine ab_iload d_PW_run_100 rfl ?_
          refine ab_aload_n d_PW_run_102 rfl ?_
          refine ab_getf (fs := [vR f_ready, vR f_tape, vR f_reader, vR f_programs, vR f_subject, vR f_spans, vR f_threads, vR f_marks, vR f_oneMind, vR f_states, vR f_latest, vR f_matches, vR f_pieces, vR f_template, vR f_result, vR f_spare, vz cmp, vz ovs]) f_PW_42 d_PW_run_103 hw_.2.2 rfl ?_
          have hnt2_ := pomI_f_oneMind.nt
          have hq252 := stT_le ns
          have hq253 := stC_le ns
          have hq254 := onPQ_le on2227
          have hq255 := onSQ_le on2227
          obtain ⟨wk_k, mk_k, stk_k, w_k, df_k, dp_k, fo_k, fy_k, hw_k, stp_k, WK_k, M_k, SK_k, sp0_k, q0_k, s0_k, hf_marks, hwk_k, hmk_k, hstk_k, cn_k, hst_k, cfo_k⟩ := pmkI_f_marks
          refine ab_callV (d' := d - 1) (as := [vR q, vR f_subject, vz hw, vz p, vR f_spans]) (st := []) (r := _) (z_MK_begin (o := o226) (q := q) (lq := lq) (ki := ki) (ne := ne) (ot := ot) (cnt := cnt) (fi := fi) (la := la) (ra := ra) (ru := ru) (gr := gr) (wi := wi) (sz := sz) (fl := fl) (ve := ve) (mi := mi2229) (na := na) (nl := nl) (s := f_subject) (by_ := by_) (co := co) (re := re) (ho := ho) (n := n) (a := f_marks) (sp := f_spans) (wk := wk_k) (mk := mk_k) (stk := stk_k) (dp := dp_k) (fo := fo_k) (hw := hw) (stp := stp_k) (M := M_k) (nm := nm) (q0 := q0_k) (s0 := s0_k) (sp0 := sp0_k) (from_ := p) (hw0 := hw_k) (fy0 := fy_k) (w0 := w_k) (df0 := df_k) hf_marks hmk_k hq hf_subject (by omega) (by omega) (by omega) (by omega) (by omega) (by omega) (by omega)) (fun oc G2 h => by rcases h with ⟨_, _, _, _, _, _, h, _⟩ <;> exact ⟨_, h⟩) (by omega) m_MK_begin ml_PW_189 im_MK_begin se_MK_begin c_MK hf_marks.2.2 (Nat.le_of_ble_eq_true rfl) d_PW_run_106 rfl ?_
          intro v G256 hq
          rcases hq with ⟨o257, w2258, fy2259, mk2260, nm2261, M2262, hv, hfk, hNf_marks, hNmk2260, hq263, hq264, hq265, hq266, hq267, hq268, hq269⟩
          cases hv
          have hw_ := hfk.get hw_ (by decide)
          have hf_spans := hfk.get hf_spans (by decide)
          have h17 := hfk.get h17 (by decide)
          have hq := hfk.get hq (by simp only [List.mem_cons, List.not_mem_nil, or_false]; omega)
          have hki := hfk.get hki (by simp only [List.mem_cons, List.not_mem_nil, or_false]; omega)
          have hne := hfk.get hne (by simp only [List.mem_cons, List.not_mem_nil, or_false]; omega)
          have hot := hfk.get hot (by simp only [List.mem_cons, List.not_mem_nil, or_false]; omega)
          have hra := hfk.get hra (by simp only [List.mem_cons, List.not_mem_nil, or_false]; omega)
          have hna := hfk.get hna (by simp only [List.mem_cons, List.not_mem_nil, or_false]; omega)
          have hnl := hfk.get hnl (by simp only [List.mem_cons, List.not_mem_nil, or_false]; omega)
          have hf_subject := hfk.get hf_subject (by decide)
          have hby_ := hfk.get hby_ (by decide)
          have hco := hfk.get hco (by decide)
          have hre := hfk.get hre (by decide)
          have hho := hfk.get hho (by decide)
          have hwk_k := hfk.get hwk_k (by decide)
          have hstk_k := hfk.get hstk_k (by decide)
          have pthI_f_threads := thI.fr hfk pthI_f_threads (by decide) (by decide) (by decide) (by decide) (by decide) (by decide) (by decide) (by decide)
          have pomI_f_oneMind := omI.fr hfk pomI_f_oneMind (by decide) (by decide) (by decide) (by decide) (by decide) (by decide) (by decide) (by decide)
          have pstI_f_states := stI.fr hfk pstI_f_states (by decide) (by decide) (by decide) (by decide) (by decide) (by decide) (by decide) (by decide) (by decide)
          have hfr := hfr.tr hfk (by simp)
          have hq270 := hfk.1
          have hf_marks := hNf_marks
          have hmk2260 := hNmk2260
          change ab_W _ _ _ G256 109 [some (vR w_), some (vR q), some (vz hw), some (vz mch), some (vz p)] [] _
          have hzt2_ : zT nm2261 52026 ≤ 156078 := zT_le (c := 52026) (by omega) rfl
          refine ab_aload_n d_PW_run_109 rfl ?_
          refine ab_getf (fs := [vR f_ready, vR f_tape, vR f_reader, vR f_programs, vR f_subject, vR f_spans, vR f_threads, vR f_marks, vR f_oneMind, vR f_states, vR f_latest, vR f_matches, vR f_pieces, vR f_template, vR f_result, vR f_spare, vz cmp, vz ovs]) f_PW_55 d_PW_run_110 hw_.2.2 rfl ?_
          refine ab_iload d_PW_run_113 rfl ?_
          refine ab_callV (d' := d - 1) (as := [vz p]) (st := []) (r := _) (z_MK_find (o := o257) (q := q) (lq := lq) (ki := ki) (ne := ne) (ot := ot) (cnt := cnt) (fi := fi) (la := la) (ra := ra) (ru := ru) (gr := gr) (wi := wi) (sz := sz) (fl := fl) (ve := ve) (mi := mi2229) (na := na) (nl := nl) (K := K) (N := N) (O := O) (RR := RR) (nr := nr) (s := f_subject) (by_ := by_) (co := co) (re := re) (ho := ho) (n := n) (C := C) (Rs := Rs) (H := H) (mc := mc) (a := f_marks) (sp := f_spans) (wk := wk_k) (mk := mk2260) (stk := stk_k) (w := w2258) (df := p) (dp := dp_k) (fo := fo_k) (fy := fy2259) (hw := hw) (stp := stp_k) (SP := SP) (WK := WK_k) (M := M2262) (SK := SK_k) (nm := nm2261) (ns := ns) (p := p) (v9 := v9_) hf_marks hf_spans hwk_k hmk2260 hstk_k hq hki hne hot hra hf_subject hco hre hho (by omega) hp hr (by omega) hsu (by omega) (by omega) (by omega) (by omega) (by omega) (by omega) hst_k (by omega) (by omega) jsp (by omega) (by omega) hpm_ (ddC_0 (by omega)) (by omega)) (fun oc G2 h => by rcases h with ⟨_, _, _, _, _, _, _, _, _, _, _, h, _⟩ | ⟨_, _, _, _, _, _, _, _, _, _, _, _, h, _⟩ <;> exact ⟨_, h⟩) (by omega) m_MK_find ml_PW_251 im_MK_find se_MK_find c_MK hf_marks.2.2 (Nat.le_of_ble_eq_true rfl) d_PW_run_115 rfl ?_
          intro v G271 hq
          rcases hq with ⟨o272, df2273, dp2274, fo2275, st2276, sk2277, ns2278, WK2279, M2280, SK2281, SP2282, hv, hfk, hNf_marks, hNf_spans, hNwk_k, hNmk2260, hNsk2277, hq283, hq284, hq285, hq286, hq287, hq288, hq289, hq290⟩ | ⟨o291, df2292, dp2293, fo2294, st2295, sk2296, ns2297, WK2298, M2299, SK2300, SP2301, r302, hv, hfk, hNf_marks, hNf_spans, hNwk_k, hNmk2260, hNsk2296, hq303, hq304, hq305, hq306, hq307, hq308, hq309, hq310, hq311, hq312, hq313, hq314, hq315⟩
          · cases hv
            have hw_ := hfk.get hw_ (by decide)
            have h17 := hfk.get h17 (by decide)
            have hq := hfk.get hq (by simp only [List.mem_cons, List.not_mem_nil, or_false]; omega)
            have hki := hfk.get hki (by simp only [List.mem_cons, List.not_mem_nil, or_false]; omega)
            have hne := hfk.get hne (by simp only [List.mem_cons, List.not_mem_nil, or_false]; omega)
            have hot := hfk.get hot (by simp only [List.mem_cons, List.not_mem_nil, or_false]; omega)
            have hra := hfk.get hra (by simp only [List.mem_cons, List.not_mem_nil, or_false]; omega)
            have hna := hfk.get hna (by simp only [List.mem_cons, List.not_mem_nil, or_false]; omega)
            have hnl := hfk.get hnl (by simp only [List.mem_cons, List.not_mem_nil, or_false]; omega)
            have hf_subject := hfk.get hf_subject (by decide)
            have hby_ := hfk.get hby_ (by decide)
            have hco := hfk.get hco (by decide)
            have hre := hfk.get hre (by decide)
            have hho := hfk.get hho (by decide)
            have pthI_f_threads := thI.fr hfk pthI_f_threads (by decide) (by decide) (by decide) (by decide) (by decide) (by decide) (by decide) (by decide)
            have pomI_f_oneMind := omI.fr hfk pomI_f_oneMind (by decide) (by decide) (by decide) (by decide) (by decide) (by decide) (by decide) (by decide)
            have pstI_f_states := stI.fr hfk pstI_f_states (by decide) (by decide) (by decide) (by decide) (by decide) (by decide) (by decide) (by decide) (by decide)
            have hfr := hfr.tr hfk (by simp)
            have hq316 := hfk.1
            have hf_marks := hNf_marks
            have hf_spans := hNf_spans
            have hwk_k := hNwk_k
            have hmk2260 := hNmk2260
            have hsk2277 := hNsk2277
            change ab_W _ _ _ G271 118 [some (vR w_), some (vR q), some (vz hw), some (vz mch), some (vz p)] [vz (-1)] _
            have pmkI_f_marks : mkI o272 G271 f_marks nm2261 ns2278 := ⟨wk_k, mk2260, sk2277, w2258, df2273, dp2274, fo2275, fy2259, hw, st2276, WK2279, M2280, SK2281, vR f_spans, vR q, vR f_subject, hf_marks, hwk_k, hmk2260, hsk2277, (by omega), hq284, (by omega)⟩
            have hmq_ : onq mi2229 on2227 := hq232
            have ppgB_q : pgB o272 G271 q lq nr cv cmp on2227 mi2229 := ⟨ki, ne, ot, cnt, fi, la, ra, ru, gr, wi, sz, fl, ve, na, nl, K, N, O, RR, NA, NL, hq, hki, hne, hot, hra, hna, hnl, (by omega), hpu, hp, hr, hch, (by omega), (by omega), (by omega), (by omega), (by omega), hq231, hmq_, (by omega), (by omega), jnl, hiv, hmn, jna⟩
            have psuI_f_subject : suI o272 G271 f_subject n m f := ⟨by_, co, re, ho, C, Rs, H, mc, hf_subject, hby_, hco, hre, hho, (by omega), hsu⟩
            refine zz_iret rfl d_PW_run_118 ?_
            rw [hQ]; exact ⟨_, _, _, _, _, _, _, _, rfl, hfr, hf_spans, pthI_f_threads, pmkI_f_marks, pomI_f_oneMind, pstI_f_states, psuI_f_subject, ppgB_q, (by omega), (by exact hq286), (by omega), (by omega), (by first | exact Or.inl rfl | exact hq235)⟩
          · cases hv
            have hw_ := hfk.get hw_ (by decide)
            have h17 := hfk.get h17 (by decide)
            have hq := hfk.get hq (by simp only [List.mem_cons, List.not_mem_nil, or_false]; omega)
            have hki := hfk.get hki (by simp only [List.mem_cons, List.not_mem_nil, or_false]; omega)
            have hne := hfk.get hne (by simp only [List.mem_cons, List.not_mem_nil, or_false]; omega)
            have hot := hfk.get hot (by simp only [List.mem_cons, List.not_mem_nil, or_false]; omega)
            have hra := hfk.get hra (by simp only [List.mem_cons, List.not_mem_nil, or_false]; omega)
            have hna := hfk.get hna (by simp only [List.mem_cons, List.not_mem_nil, or_false]; omega)
            have hnl := hfk.get hnl (by simp only [List.mem_cons, List.not_mem_nil, or_false]; omega)
            have hf_subject := hfk.get hf_subject (by decide)
            have hby_ := hfk.get hby_ (by decide)
            have hco := hfk.get hco (by decide)
            have hre := hfk.get hre (by decide)
            have hho := hfk.get hho (by decide)
            have pthI_f_threads := thI.fr hfk pthI_f_threads (by decide) (by decide) (by decide) (by decide) (by decide) (by decide) (by decide) (by decide)
            have pomI_f_oneMind := omI.fr hfk pomI_f_oneMind (by decide) (by decide) (by decide) (by decide) (by decide) (by decide) (by decide) (by decide)
            have pstI_f_states := stI.fr hfk pstI_f_states (by decide) (by decide) (by decide) (by decide) (by decide) (by decide) (by decide) (by decide) (by decide)
            have hfr := hfr.tr hfk (by simp)
            have hq317 := hfk.1
            have hf_marks := hNf_marks
            have hf_spans := hNf_spans
            have hwk_k := hNwk_k
            have hmk2260 := hNmk2260
            have hsk2296 := hNsk2296
            change ab_W _ _ _ G271 118 [some (vR w_), some (vR q), some (vz hw), some (vz mch), some (vz p)] [vz r302] _
            have pmkI_f_marks : mkI o291 G271 f_marks nm2261 ns2297 := ⟨wk_k, mk2260, sk2296, w2258, df2292, dp2293, fo2294, fy2259, hw, st2295, WK2298, M2299, SK2300, vR f_spans, vR q, vR f_subject, hf_marks, hwk_k, hmk2260, hsk2296, (by omega), hq304, (by omega)⟩
            have hmq_ : onq mi2229 on2227 := hq232
            have ppgB_q : pgB o291 G271 q lq nr cv cmp on2227 mi2229 := ⟨ki, ne, ot, cnt, fi, la, ra, ru, gr, wi, sz, fl, ve, na, nl, K, N, O, RR, NA, NL, hq, hki, hne, hot, hra, hna, hnl, (by omega), hpu, hp, hr, hch, (by omega), (by omega), (by omega), (by omega), (by omega), hq231, hmq_, (by omega), (by omega), jnl, hiv, hmn, jna⟩
            have psuI_f_subject : suI o291 G271 f_subject n m f := ⟨by_, co, re, ho, C, Rs, H, mc, hf_subject, hby_, hco, hre, hho, (by omega), hsu⟩
            refine zz_iret rfl d_PW_run_118 ?_
            rw [hQ]; exact ⟨_, _, _, _, _, _, _, _, rfl, hfr, hf_spans, pthI_f_threads, pmkI_f_marks, pomI_f_oneMind, pstI_f_states, psuI_f_subject, ppgB_q, (by omega), (by exact hq306), (by omega), (by omega), (by first | exact Or.inl rfl | exact hq235)⟩
        · cases hv
          have hw_ := hfk.get hw_ (by simp only [List.mem_cons, List.not_mem_nil, or_false]; omega)
          have hf_spans := hfk.get hf_spans (by simp only [List.mem_cons, List.not_mem_nil, or_false]; omega)
          have h17 := hfk.get h17 (by simp only [List.mem_cons, List.not_mem_nil, or_false]; omega)
          have hna := hfk.get hna (by simp only [List.mem_cons, List.not_mem_nil, or_false]; omega)
          have hnl := hfk.get hnl (by simp only [List.mem_cons, List.not_mem_nil, or_false]; omega)
          have hf_subject := hfk.get hf_subject (by simp only [List.mem_cons, List.not_mem_nil, or_false]; omega)
          have hby_ := hfk.get hby_ (by simp only [List.mem_cons, List.not_mem_nil, or_false]; omega)
          have hco := hfk.get hco (by simp only [List.mem_cons, List.not_mem_nil, or_false]; omega)
          have hre := hfk.get hre (by simp only [List.mem_cons, List.not_mem_nil, or_false]; omega)
          have hho := hfk.get hho (by simp only [List.mem_cons, List.not_mem_nil, or_false]; omega)
          have pthI_f_threads := thI.fr hfk pthI_f_threads (by simp only [List.mem_cons, List.not_mem_nil, or_false]; omega) (by simp only [List.mem_cons, List.not_mem_nil, or_false]; omega) (by simp only [List.mem_cons, List.not_mem_nil, or_false]; omega) (by simp only [List.mem_cons, List.not_mem_nil, or_false]; omega) (by simp only [List.mem_cons, List.not_mem_nil, or_false]; omega) (by simp only [List.mem_cons, List.not_mem_nil, or_false]; omega) (by simp only [List.mem_cons, List.not_mem_nil, or_false]; omega) (by simp only [List.mem_cons, List.not_mem_nil, or_false]; omega)
          have pmkI_f_marks := mkI.fr hfk pmkI_f_marks (by simp only [List.mem_cons, List.not_mem_nil, or_false]; omega) (by simp only [List.mem_cons, List.not_mem_nil, or_false]; omega) (by simp only [List.mem_cons, List.not_mem_nil, or_false]; omega) (by simp only [List.mem_cons, List.not_mem_nil, or_false]; omega)
          have pstI_f_states := stI.fr hfk pstI_f_states (by simp only [List.mem_cons, List.not_mem_nil, or_false]; omega) (by simp only [List.mem_cons, List.not_mem_nil, or_false]; omega) (by simp only [List.mem_cons, List.not_mem_nil, or_false]; omega) (by simp only [List.mem_cons, List.not_mem_nil, or_false]; omega) (by simp only [List.mem_cons, List.not_mem_nil, or_false]; omega) (by simp only [List.mem_cons, List.not_mem_nil, or_false]; omega) (by simp only [List.mem_cons, List.not_mem_nil, or_false]; omega) (by simp only [List.mem_cons, List.not_mem_nil, or_false]; omega) (by simp only [List.mem_cons, List.not_mem_nil, or_false]; omega)
          have pomI_f_oneMind := pNomI_f_oneMind
          have hfr := hfr.tr hfk (by simp)
          have hq249 := hfk.1
          have hq := hNq
          have hki := hNki
          have hne := hNne
          have hot := hNot
          have hra := hNra
          change ab_W _ _ _ G225 42 [some (vR w_), some (vR q), some (vz hw), some (vz mch), some (vz p)] [vz 1] _
          refine zz_if_eq (tgt := 65) d_PW_run_42 (by decide) (by decide) (fun c318 => absurd c318 (by decide)) (fun c318 => ?_)
          refine ab_aload_n d_PW_run_45 rfl ?_
          refine ab_getf (fs := [vR f_ready, vR f_tape, vR f_reader, vR f_programs, vR f_subject, vR f_spans, vR f_threads, vR f_marks, vR f_oneMind, vR f_states, vR f_latest, vR f_matches, vR f_pieces, vR f_template, vR f_result, vR f_spare, vz cmp, vz ovs]) f_PW_62 d_PW_run_46 hw_.2.2 rfl ?_
          refine ab_aload_n d_PW_run_49 rfl ?_
          refine ab_aload_n d_PW_run_50 rfl ?_
          refine ab_getf (fs := [vR f_ready, vR f_tape, vR f_reader, vR f_programs, vR f_subject, vR f_spans, vR f_threads, vR f_marks, vR f_oneMind, vR f_states, vR f_latest, vR f_matches, vR f_pieces, vR f_template, vR f_result, vR f_spare, vz cmp, vz ovs]) f_PW_38 d_PW_run_51 hw_.2.2 rfl ?_
          refine ab_iload_n d_PW_run_54 rfl ?_
          refine ab_iload d_PW_run_55 rfl ?_
          refine ab_aload_n d_PW_run_57 rfl ?_
          refine ab_getf (fs := [vR f_ready, vR f_tape, vR f_reader, vR f_programs, vR f_subject, vR f_spans, vR f_threads, vR f_marks, vR f_oneMind, vR f_states, vR f_latest, vR f_matches, vR f_pieces, vR f_template, vR f_result, vR f_spare, vz cmp, vz ovs]) f_PW_42 d_PW_run_58 hw_.2.2 rfl ?_
          obtain ⟨wk_o, onw_o, tkn_o, se__o, cle_o, stk_o, dp_o, fo_o, chn_o, hw_o, fy_o, stp_o, WK_o, ON_o, SK_o, sp0_o, q0_o, s0_o, SE_o, CL_o, ct_o, P_o, nk_o, hf_oneMind, hwk_o, honw_o, hse__o, hcle_o, hstk_o, pcsI_tkn_o, hon_o, hnt_o⟩ := pomI_f_oneMind
          have hnk_ : nk_o = 809 := by rcases hon_o with z | z <;> omega
          subst hnk_
          refine ab_callV (d' := d - 1) (as := [vR q, vR f_subject, vz hw, vz p, vR f_spans]) (st := []) (r := _) (z_OM_find (o := o236) (a := f_oneMind) (sp := f_spans) (wk := wk_o) (onw := onw_o) (tkn := tkn_o) (se_ := se__o) (cle := cle_o) (stk := stk_o) (dp := dp_o) (chn := chn_o) (hw := hw) (stp := stp_o) (SP := SP) (WK := WK_o) (ON := ON_o) (SK := SK_o) (q := q) (lq := lq) (ki := ki) (ne := ne) (ot := ot) (cnt := cnt) (fi := fi) (la := la) (ra := ra) (ru := ru) (gr := gr) (wi := wi) (sz := sz) (fl := fl) (ve := ve) (mi := mi2239) (na := na) (nl := nl) (K := K) (N := N) (O := O) (RR := RR) (nr := nr) (s := f_subject) (by_ := by_) (co := co) (re := re) (ho := ho) (n := n) (C := C) (Rs := Rs) (H := H) (mc := mc) (p := p) (sp0 := sp0_o) (q0 := q0_o) (s0 := s0_o) (hw0 := hw_o) (fy0 := fy_o) (fo0 := fo_o) hf_oneMind hf_spans hwk_o honw_o hstk_o hq hki hne hot hra hf_subject hco hre hho (by omega) hp hr (by omega) (by omega) hsu (by omega) hq246 (by omega) (by omega) jsp (by omega)) (fun oc G2 h => by rcases h with ⟨_, _, _, _, _, _, _, _, _, h, _⟩ | ⟨_, _, _, _, _, _, _, _, _, _, h, _⟩ <;> exact ⟨_, h⟩) (by omega) m_OM_find ml_PW_250 im_OM_find se_OM_find c_OM hf_oneMind.2.2 (Nat.le_of_ble_eq_true rfl) d_PW_run_61 rfl ?_
          intro v G319 hq
          rcases hq with ⟨dp2320, fo2321, ch2322, fy2323, st2324, SP2325, WK2326, ON2327, SK2328, hv, hfk, hlk, hsk, hNf_oneMind, hNf_spans, hNwk_o, hNonw_o, hNstk_o, hq329, hq330⟩ | ⟨dp2331, fo2332, ch2333, fy2334, st2335, SP2336, WK2337, ON2338, SK2339, r340, hv, hfk, hlk, hsk, hNf_oneMind, hNf_spans, hNwk_o, hNonw_o, hNstk_o, hq341, hq342, hq343, hq344, hq345, hq346⟩
          · cases hv
            have hw_ := hfk.get hw_ (by decide)
            have h17 := hfk.get h17 (by decide)
            have hq := hfk.get hq (by simp only [List.mem_cons, List.not_mem_nil, or_false]; omega)
            have hki := hfk.get hki (by simp only [List.mem_cons, List.not_mem_nil, or_false]; omega)
            have hne := hfk.get hne (by simp only [List.mem_cons, List.not_mem_nil, or_false]; omega)
            have hot := hfk.get hot (by simp only [List.mem_cons, List.not_mem_nil, or_false]; omega)
            have hra := hfk.get hra (by simp only [List.mem_cons, List.not_mem_nil, or_false]; omega)
            have hna := hfk.get hna (by simp only [List.mem_cons, List.not_mem_nil, or_false]; omega)
            have hnl := hfk.get hnl (by simp only [List.mem_cons, List.not_mem_nil, or_false]; omega)
            have hf_subject := hfk.get hf_subject (by decide)
            have hby_ := hfk.get hby_ (by decide)
            have hco := hfk.get hco (by decide)
            have hre := hfk.get hre (by decide)
            have hho := hfk.get hho (by decide)
            have hse__o := hfk.get hse__o (by decide)
            have hcle_o := hfk.get hcle_o (by decide)
            have pthI_f_threads := thI.fr hfk pthI_f_threads (by decide) (by decide) (by decide) (by decide) (by decide) (by decide) (by decide) (by decide)
            have pmkI_f_marks := mkI.fr hfk pmkI_f_marks (by decide) (by decide) (by decide) (by decide)
            have pstI_f_states := stI.fr hfk pstI_f_states (by decide) (by decide) (by decide) (by decide) (by decide) (by decide) (by decide) (by decide) (by decide)
            have pcsI_tkn_o := csI.fr hfk pcsI_tkn_o (by decide) (by decide)
            have hfr := hfr.tr hfk (by simp)
            have hq347 := hlk
            have hq348 := hsk
            have hf_oneMind := hNf_oneMind
            have hf_spans := hNf_spans
            have hwk_o := hNwk_o
            have honw_o := hNonw_o
            have hstk_o := hNstk_o
            change ab_W _ _ _ G319 64 [some (vR w_), some (vR q), some (vz hw), some (vz mch), some (vz p)] [vz (-1)] _
            have pomI_f_oneMind : omI o236 G319 f_oneMind on2237 nt2238 := ⟨wk_o, onw_o, tkn_o, se__o, cle_o, stk_o, dp2320, fo2321, ch2322, hw, fy2323, st2324, WK2326, ON2327, SK2328, vR f_spans, vR q, vR f_subject, SE_o, CL_o, ct_o, P_o, 809, hf_oneMind, hwk_o, honw_o, hse__o, hcle_o, hstk_o, pcsI_tkn_o, (Or.inr ⟨by omega, rfl⟩), (by omega)⟩
            have hmq_ : onq mi2239 on2237 := hq242
            have ppgB_q : pgB o236 G319 q lq nr cv cmp on2237 mi2239 := ⟨ki, ne, ot, cnt, fi, la, ra, ru, gr, wi, sz, fl, ve, na, nl, K, N, O, RR, NA, NL, hq, hki, hne, hot, hra, hna, hnl, (by omega), hpu, hp, hr, hch, (by omega), (by omega), (by omega), (by omega), (by omega), hq241, hmq_, (by omega), (by omega), jnl, hiv, hmn, jna⟩
            have psuI_f_subject : suI o236 G319 f_subject n m f := ⟨by_, co, re, ho, C, Rs, H, mc, hf_subject, hby_, hco, hre, hho, (by omega), hsu⟩
            refine zz_iret rfl d_PW_run_64 ?_
            rw [hQ]; exact ⟨_, _, _, _, _, _, _, _, rfl, hfr, hf_spans, pthI_f_threads, pmkI_f_marks, pomI_f_oneMind, pstI_f_states, psuI_f_subject, ppgB_q, (by omega), (by exact hq329), (by omega), (by omega), (by first | exact Or.inl rfl | exact hq245)⟩
          · cases hv
            have hw_ := hfk.get hw_ (by decide)
            have h17 := hfk.get h17 (by decide)
            have hq := hfk.get hq (by simp only [List.mem_cons, List.not_mem_nil, or_false]; omega)
            have hki := hfk.get hki (by simp only [List.mem_cons, List.not_mem_nil, or_false]; omega)
            have hne := hfk.get hne (by simp only [List.mem_cons, List.not_mem_nil, or_false]; omega)
            have hot := hfk.get hot (by simp only [List.mem_cons, List.not_mem_nil, or_false]; omega)
            have hra := hfk.get hra (by simp only [List.mem_cons, List.not_mem_nil, or_false]; omega)
            have hna := hfk.get hna (by simp only [List.mem_cons, List.not_mem_nil, or_false]; omega)
            have hnl := hfk.get hnl (by simp only [List.mem_cons, List.not_mem_nil, or_false]; omega)
            have hf_subject := hfk.get hf_subject (by decide)
            have hby_ := hfk.get hby_ (by decide)
            have hco := hfk.get hco (by decide)
            have hre := hfk.get hre (by decide)
            have hho := hfk.get hho (by decide)
            have hse__o := hfk.get hse__o (by decide)
            have hcle_o := hfk.get hcle_o (by decide)
            have pthI_f_threads := thI.fr hfk pthI_f_threads (by decide) (by decide) (by decide) (by decide) (by decide) (by decide) (by decide) (by decide)
            have pmkI_f_marks := mkI.fr hfk pmkI_f_marks (by decide) (by decide) (by decide) (by decide)
            have pstI_f_states := stI.fr hfk pstI_f_states (by decide) (by decide) (by decide) (by decide) (by decide) (by decide) (by decide) (by decide) (by decide)
            have pcsI_tkn_o := csI.fr hfk pcsI_tkn_o (by decide) (by decide)
            have hfr := hfr.tr hfk (by simp)
            have hq349 := hlk
            have hq350 := hsk
            have hf_oneMind := hNf_oneMind
            have hf_spans := hNf_spans
            have hwk_o := hNwk_o
            have honw_o := hNonw_o
            have hstk_o := hNstk_o
            change ab_W _ _ _ G319 64 [some (vR w_), some (vR q), some (vz hw), some (vz mch), some (vz p)] [vz r340] _
            have pomI_f_oneMind : omI o236 G319 f_oneMind on2237 nt2238 := ⟨wk_o, onw_o, tkn_o, se__o, cle_o, stk_o, dp2331, fo2332, ch2333, hw, fy2334, st2335, WK2337, ON2338, SK2339, vR f_spans, vR q, vR f_subject, SE_o, CL_o, ct_o, P_o, 809, hf_oneMind, hwk_o, honw_o, hse__o, hcle_o, hstk_o, pcsI_tkn_o, (Or.inr ⟨by omega, rfl⟩), (by omega)⟩
            have hmq_ : onq mi2239 on2237 := hq242
            have ppgB_q : pgB o236 G319 q lq nr cv cmp on2237 mi2239 := ⟨ki, ne, ot, cnt, fi, la, ra, ru, gr, wi, sz, fl, ve, na, nl, K, N, O, RR, NA, NL, hq, hki, hne, hot, hra, hna, hnl, (by omega), hpu, hp, hr, hch, (by omega), (by omega), (by omega), (by omega), (by omega), hq241, hmq_, (by omega), (by omega), jnl, hiv, hmn, jna⟩
            have psuI_f_subject : suI o236 G319 f_subject n m f := ⟨by_, co, re, ho, C, Rs, H, mc, hf_subject, hby_, hco, hre, hho, (by omega), hsu⟩
            refine zz_iret rfl d_PW_run_64 ?_
            rw [hQ]; exact ⟨_, _, _, _, _, _, _, _, rfl, hfr, hf_spans, pthI_f_threads, pmkI_f_marks, pomI_f_oneMind, pstI_f_states, psuI_f_subject, ppgB_q, (by omega), (by exact hq341), (by omega), (by omega), (by first | exact Or.inl rfl | exact hq245)⟩
  · refine ab_aload_n d_PW_run_5 rfl ?_
    refine ab_getf (fs := [vR f_ready, vR f_tape, vR f_reader, vR f_programs, vR f_subject, vR f_spans, vR f_threads, vR f_marks, vR f_oneMind, vR f_states, vR f_latest, vR f_matches, vR f_pieces, vR f_template, vR f_result, vR f_spare, vz cmp, vz ovs]) f_PW_48 d_PW_run_6 hw_.2.2 rfl ?_
    refine ab_aload_n d_PW_run_9 rfl ?_
    refine ab_aload_n d_PW_run_10 rfl ?_
    refine ab_getf (fs := [vR f_ready, vR f_tape, vR f_reader, vR f_programs, vR f_subject, vR f_spans, vR f_threads, vR f_marks, vR f_oneMind, vR f_states, vR f_latest, vR f_matches, vR f_pieces, vR f_template, vR f_result, vR f_spare, vz cmp, vz ovs]) f_PW_38 d_PW_run_11 hw_.2.2 rfl ?_
    refine ab_iload_n d_PW_run_14 rfl ?_
    refine ab_iload d_PW_run_15 rfl ?_
    refine ab_aload_n d_PW_run_17 rfl ?_
    refine ab_getf (fs := [vR f_ready, vR f_tape, vR f_reader, vR f_programs, vR f_subject, vR f_spans, vR f_threads, vR f_marks, vR f_oneMind, vR f_states, vR f_latest, vR f_matches, vR f_pieces, vR f_template, vR f_result, vR f_spare, vz cmp, vz ovs]) f_PW_42 d_PW_run_18 hw_.2.2 rfl ?_
    obtain ⟨wk_t, nw_t, tn_t, nsp_t, tsp_t, se_t, stk_t, nc_t, tc_t, sta_t, fo_t, hw_t, fy_t, stp_t, WK_t, NW_t, TN_t, NS_t, TS_t, SE_t, SK_t, l1_t, l2_t, l3_t, l4_t, sp0_t, q0_t, s0_t, hf_threads, hwk_t, hnw_t, htn_t, hnsp_t, htsp_t, hse_t, hstk_t, cl_t, jse_t, cst_t⟩ := pthI_f_threads
    refine ab_callV (d' := d - 1) (as := [vR q, vR f_subject, vz hw, vz p, vR f_spans]) (st := []) (r := _) (z_TH_find (o := o) (q := q) (lq := lq) (ki := ki) (ne := ne) (ot := ot) (cnt := cnt) (fi := fi) (la := la) (ra := ra) (ru := ru) (gr := gr) (wi := wi) (sz := sz) (fl := fl) (ve := ve) (mi := mi) (na := na) (nl := nl) (K := K) (N := N) (O := O) (RR := RR) (nr := nr) (s := f_subject) (by_ := by_) (co := co) (re := re) (ho := ho) (n := n) (C := C) (Rs := Rs) (H := H) (mc := mc) (a := f_threads) (sp := f_spans) (wk := wk_t) (nw := nw_t) (tn := tn_t) (nsp := nsp_t) (tsp := tsp_t) (se := se_t) (stk := stk_t) (nc := nc_t) (tc := tc_t) (sta := sta_t) (hw := hw) (stp := stp_t) (SP := SP) (WK := WK_t) (NW := NW_t) (TN := TN_t) (NS := NS_t) (TS := TS_t) (SE := SE_t) (SK := SK_t) (l1 := l1_t) (l2 := l2_t) (l3 := l3_t) (l4 := l4_t) (sp0 := sp0_t) (q0 := q0_t) (s0 := s0_t) (hw0 := hw_t) (fy0 := fy_t) (fo0 := fo_t) (p := p) hf_threads hf_spans hwk_t hnw_t htn_t hnsp_t htsp_t hse_t hstk_t hq hki hne hot hra hf_subject hco hre hho (by omega) hp hr (by omega) hsu (by omega) (by omega) (by omega) (by omega) (by omega) jse_t (by omega) jsp (by omega)) (fun oc G2 h => by rcases h with ⟨_, _, _, _, _, _, _, _, _, _, _, _, _, _, _, _, _, _, _, _, _, _, h, _⟩ | ⟨_, _, _, _, _, _, _, _, _, _, _, _, _, _, _, _, _, _, _, _, _, _, _, h, _⟩ <;> exact ⟨_, h⟩) (by omega) m_TH_find ml_PW_243 im_TH_find se_TH_find c_TH hf_threads.2.2 (Nat.le_of_ble_eq_true rfl) d_PW_run_21 rfl ?_
    intro v G351 hq
    rcases hq with ⟨nw2352, tn2353, nsp2354, tsp2355, m1356, m2_357, m3358, m4359, nc2360, tc2361, sta2362, fo2363, fy2364, st2365, NW2366, TN2367, NS2368, TS2369, SE2370, SK2371, WK2372, SP2373, hv, hfk, hlk, hsk, hNf_threads, hNf_spans, hNwk_t, hNnw2352, hNtn2353, hNnsp2354, hNtsp2355, hNse_t, hNstk_t, hq374, hq375, hq376, hq377, hq378⟩ | ⟨nw2379, tn2380, nsp2381, tsp2382, m1383, m2_384, m3385, m4386, nc2387, tc2388, sta2389, fo2390, fy2391, st2392, NW2393, TN2394, NS2395, TS2396, SE2397, SK2398, WK2399, SP2400, r401, hv, hfk, hlk, hsk, hNf_threads, hNf_spans, hNwk_t, hNnw2379, hNtn2380, hNnsp2381, hNtsp2382, hNse_t, hNstk_t, hq402, hq403, hq404, hq405, hq406, hq407, hq408, hq409, hq410⟩
    · cases hv
      have hw_ := hfk.get hw_ (by decide)
      have h17 := hfk.get h17 (by decide)
      have hq := hfk.get hq (by simp only [List.mem_cons, List.not_mem_nil, or_false]; omega)
      have hki := hfk.get hki (by simp only [List.mem_cons, List.not_mem_nil, or_false]; omega)
      have hne := hfk.get hne (by simp only [List.mem_cons, List.not_mem_nil, or_false]; omega)
      have hot := hfk.get hot (by simp only [List.mem_cons, List.not_mem_nil, or_false]; omega)
      have hra := hfk.get hra (by simp only [List.mem_cons, List.not_mem_nil, or_false]; omega)
      have hna := hfk.get hna (by simp only [List.mem_cons, List.not_mem_nil, or_false]; omega)
      have hnl := hfk.get hnl (by simp only [List.mem_cons, List.not_mem_nil, or_false]; omega)
      have hf_subject := hfk.get hf_subject (by decide)
      have hby_ := hfk.get hby_ (by decide)
      have hco := hfk.get hco (by decide)
      have hre := hfk.get hre (by decide)
      have hho := hfk.get hho (by decide)
      have pmkI_f_marks := mkI.fr hfk pmkI_f_marks (by decide) (by decide) (by decide) (by decide)
      have pomI_f_oneMind := omI.fr hfk pomI_f_oneMind (by decide) (by decide) (by decide) (by decide) (by decide) (by decide) (by decide) (by decide)
      have pstI_f_states := stI.fr hfk pstI_f_states (by decide) (by decide) (by decide) (by decide) (by decide) (by decide) (by decide) (by decide) (by decide)
      have hfr := hfr.tr hfk (by simp)
      have hq411 := hlk
      have hq412 := hsk
      have hf_threads := hNf_threads
      have hf_spans := hNf_spans
      have hwk_t := hNwk_t
      have hnw2352 := hNnw2352
      have htn2353 := hNtn2353
      have hnsp2354 := hNnsp2354
      have htsp2355 := hNtsp2355
      have hse_t := hNse_t
      have hstk_t := hNstk_t
      change ab_W _ _ _ G351 24 [some (vR w_), some (vR q), some (vz hw), some (vz mch), some (vz p)] [vz (-1)] _
      have pthI_f_threads : thI o G351 f_threads := ⟨wk_t, nw2352, tn2353, nsp2354, tsp2355, se_t, stk_t, nc2360, tc2361, sta2362, fo2363, hw, fy2364, st2365, WK2372, NW2366, TN2367, NS2368, TS2369, SE2370, SK2371, m1356, m2_357, m3358, m4359, vR f_spans, vR q, vR f_subject, hf_threads, hwk_t, hnw2352, htn2353, hnsp2354, htsp2355, hse_t, hstk_t, (by omega), hq377, (by omega)⟩
      have hmq_ : onq mi on := hmi
      have ppgB_q : pgB o G351 q lq nr cv cmp on mi := ⟨ki, ne, ot, cnt, fi, la, ra, ru, gr, wi, sz, fl, ve, na, nl, K, N, O, RR, NA, NL, hq, hki, hne, hot, hra, hna, hnl, (by omega), hpu, hp, hr, hch, (by omega), (by omega), (by omega), (by omega), (by omega), hpo, hmq_, (by omega), (by omega), jnl, hiv, hmn, jna⟩
      have psuI_f_subject : suI o G351 f_subject n m f := ⟨by_, co, re, ho, C, Rs, H, mc, hf_subject, hby_, hco, hre, hho, (by omega), hsu⟩
      refine zz_iret rfl d_PW_run_24 ?_
      rw [hQ]; exact ⟨_, _, _, _, _, _, _, _, rfl, hfr, hf_spans, pthI_f_threads, pmkI_f_marks, pomI_f_oneMind, pstI_f_states, psuI_f_subject, ppgB_q, (by omega), (by exact hq376), (by omega), (by omega), (by first | exact Or.inl rfl | exact Or.inl rfl)⟩
    · cases hv
      have hw_ := hfk.get hw_ (by decide)
      have h17 := hfk.get h17 (by decide)
      have hq := hfk.get hq (by simp only [List.mem_cons, List.not_mem_nil, or_false]; omega)
      have hki := hfk.get hki (by simp only [List.mem_cons, List.not_mem_nil, or_false]; omega)
      have hne := hfk.get hne (by simp only [List.mem_cons, List.not_mem_nil, or_false]; omega)
      have hot := hfk.get hot (by simp only [List.mem_cons, List.not_mem_nil, or_false]; omega)
      have hra := hfk.get hra (by simp only [List.mem_cons, List.not_mem_nil, or_false]; omega)
      have hna := hfk.get hna (by simp only [List.mem_cons, List.not_mem_nil, or_false]; omega)
      have hnl := hfk.get hnl (by simp only [List.mem_cons, List.not_mem_nil, or_false]; omega)
      have hf_subject := hfk.get hf_subject (by decide)
      have hby_ := hfk.get hby_ (by decide)
      have hco := hfk.get hco (by decide)
      have hre := hfk.get hre (by decide)
      have hho := hfk.get hho (by decide)
      have pmkI_f_marks := mkI.fr hfk pmkI_f_marks (by decide) (by decide) (by decide) (by decide)
      have pomI_f_oneMind := omI.fr hfk pomI_f_oneMind (by decide) (by decide) (by decide) (by decide) (by decide) (by decide) (by decide) (by decide)
      have pstI_f_states := stI.fr hfk pstI_f_states (by decide) (by decide) (by decide) (by decide) (by decide) (by decide) (by decide) (by decide) (by decide)
      have hfr := hfr.tr hfk (by simp)
      have hq413 := hlk
      have hq414 := hsk
      have hf_threads := hNf_threads
      have hf_spans := hNf_spans
      have hwk_t := hNwk_t
      have hnw2379 := hNnw2379
      have htn2380 := hNtn2380
      have hnsp2381 := hNnsp2381
      have htsp2382 := hNtsp2382
      have hse_t := hNse_t
      have hstk_t := hNstk_t
      change ab_W _ _ _ G351 24 [some (vR w_), some (vR q), some (vz hw), some (vz mch), some (vz p)] [vz r401] _
      have pthI_f_threads : thI o G351 f_threads := ⟨wk_t, nw2379, tn2380, nsp2381, tsp2382, se_t, stk_t, nc2387, tc2388, sta2389, fo2390, hw, fy2391, st2392, WK2399, NW2393, TN2394, NS2395, TS2396, SE2397, SK2398, m1383, m2_384, m3385, m4386, vR f_spans, vR q, vR f_subject, hf_threads, hwk_t, hnw2379, htn2380, hnsp2381, htsp2382, hse_t, hstk_t, (by omega), hq405, (by omega)⟩
      have hmq_ : onq mi on := hmi
      have ppgB_q : pgB o G351 q lq nr cv cmp on mi := ⟨ki, ne, ot, cnt, fi, la, ra, ru, gr, wi, sz, fl, ve, na, nl, K, N, O, RR, NA, NL, hq, hki, hne, hot, hra, hna, hnl, (by omega), hpu, hp, hr, hch, (by omega), (by omega), (by omega), (by omega), (by omega), hpo, hmq_, (by omega), (by omega), jnl, hiv, hmn, jna⟩
      have psuI_f_subject : suI o G351 f_subject n m f := ⟨by_, co, re, ho, C, Rs, H, mc, hf_subject, hby_, hco, hre, hho, (by omega), hsu⟩
      refine zz_iret rfl d_PW_run_24 ?_
      rw [hQ]; exact ⟨_, _, _, _, _, _, _, _, rfl, hfr, hf_spans, pthI_f_threads, pmkI_f_marks, pomI_f_oneMind, pstI_f_states, psuI_f_subject, ppgB_q, (by omega), (by exact hq404), (by omega), (by omega), (by first | exact Or.inl rfl | exact Or.inl rfl)⟩
set_option maxRecDepth 100000 in
set_option maxHeartbeats 4000000 in
theorem z_PW_settle {X : ab_X} {d : Nat} {o : Nat → Nat} {G : ab_G} {w_ : Nat} {f_ready : Nat} {f_tape : Nat} {f_reader : Nat} {f_programs : Nat} {f_subject : Nat} {f_spans : Nat} {f_threads : Nat} {f_marks : Nat} {f_oneMind : Nat} {f_states : Nat} {f_latest : Nat} {f_matches : Nat} {f_pieces : Nat} {f_template : Nat} {f_result : Nat} {f_spare : Nat} {cmp : Int} {ovs : Int} {cv : Int → Int} {on : Nat} {nm : Nat} {ns : Nat} {nt : Nat} {n : Int} {m : Nat} {f : Int → Int} {z1 : Int} {z2 : Int} (hw_ : cc o G w_ 18 (ab_ob 0 [vR f_ready, vR f_tape, vR f_reader, vR f_programs, vR f_subject, vR f_spans, vR f_threads, vR f_marks, vR f_oneMind, vR f_states, vR f_latest, vR f_matches, vR f_pieces, vR f_template, vR f_result, vR f_spare, vz cmp, vz ovs])) (pthI_f_threads : thI o G f_threads) (pmkI_f_marks : mkI o G f_marks nm ns) (pomI_f_oneMind : omI o G f_oneMind on nt) (pstI_f_states : stI o G f_states cv cmp) (psuI_f_subject : suI o G f_subject n m f) (n18 : ab_n0 = 18) (cz : 0 ≤ z1 ∧ z1 ≤ 100000 ∧ 0 ≤ z2 ∧ z2 ≤ 100000) (hd : 1 ≤ d) : ab_F X d y_PW_settle (.code y_PW_settle b_PW_settle 7 none) [vR w_, vz z1, vz z2] G (fun oc G2 => ∃ ov2 : Int, oc = .returned none ∧ fx o o [18, 32, 44, 50, 60] G G2 ∧ G2.length = G.length ∧ ab_slots G2 = ab_slots G ∧ cc o G2 w_ 18 (ab_ob 0 [vR f_ready, vR f_tape, vR f_reader, vR f_programs, vR f_subject, vR f_spans, vR f_threads, vR f_marks, vR f_oneMind, vR f_states, vR f_latest, vR f_matches, vR f_pieces, vR f_template, vR f_result, vR f_spare, vz cmp, vz ov2]) ∧ thI o G2 f_threads ∧ mkI o G2 f_marks nm ns ∧ omI o G2 f_oneMind on nt ∧ stI o G2 f_states cv cmp ∧ suI o G2 f_subject n m f) := by
  refine ab_F_of (by decide +kernel) (Nat.le_of_ble_eq_true rfl) ?_
  obtain ⟨Q, hQ⟩ : ∃ z : Outcome → ab_G → Prop, z = (fun oc G2 => ∃ ov2 : Int, oc = .returned none ∧ fx o o [18, 32, 44, 50, 60] G G2 ∧ G2.length = G.length ∧ ab_slots G2 = ab_slots G ∧ cc o G2 w_ 18 (ab_ob 0 [vR f_ready, vR f_tape, vR f_reader, vR f_programs, vR f_subject, vR f_spans, vR f_threads, vR f_marks, vR f_oneMind, vR f_states, vR f_latest, vR f_matches, vR f_pieces, vR f_template, vR f_result, vR f_spare, vz cmp, vz ov2]) ∧ thI o G2 f_threads ∧ mkI o G2 f_marks nm ns ∧ omI o G2 f_oneMind on nt ∧ stI o G2 f_states cv cmp ∧ suI o G2 f_subject n m f) := ⟨_, rfl⟩
  rw [← hQ]
  change ab_W X (ab_pl y_PW_settle b_PW_settle 7 none) d G 0 [some (vR w_), some (vz z1), some (vz z2), none, none, none, none] [] Q
  have hfr : fx o o [18, 32, 44, 50, 60] G G := fx.rf
  have hlen : G.length = G.length := rfl
  have hsl : ab_slots G = ab_slots G := rfl
  obtain ⟨by_, co, re, ho, C, Rs, H, mc, hf_subject, hby_, hco, hre, hho, csu, hsu⟩ := psuI_f_subject
  obtain ⟨wk_t, nw_t, tn_t, nsp_t, tsp_t, se_t, stk_t, nc_t, tc_t, sta_t, fo_t, hw_t, fy_t, stp_t, WK_t, NW_t, TN_t, NS_t, TS_t, SE_t, SK_t, l1_t, l2_t, l3_t, l4_t, sp0_t, q0_t, s0_t, hf_threads, hwk_t, hnw_t, htn_t, hnsp_t, htsp_t, hse_t, hstk_t, cl_t, jse_t, cst_t⟩ := pthI_f_threads
  obtain ⟨wk_k, mk_k, stk_k, w_k, df_k, dp_k, fo_k, fy_k, hw_k, stp_k, WK_k, M_k, SK_k, sp0_k, q0_k, s0_k, hf_marks, hwk_k, hmk_k, hstk_k, cn_k, hst_k, cfo_k⟩ := pmkI_f_marks
  obtain ⟨wk_o, onw_o, tkn_o, se__o, cle_o, stk_o, dp_o, fo_o, chn_o, hw_o, fy_o, stp_o, WK_o, ON_o, SK_o, sp0_o, q0_o, s0_o, SE_o, CL_o, ct_o, P_o, nk_o, hf_oneMind, hwk_o, honw_o, hse__o, hcle_o, hstk_o, pcsI_tkn_o, hon_o, hnt_o⟩ := pomI_f_oneMind
  obtain ⟨cu_s, eg_s, po_s, bg_s, bd_s, sd_s, se__s, stk_s, mst_s, q0_s, vr_s, ro_s, cn_s, ct_s, sc_s, sta_s, arv_s, stp_s, CU_s, EG_s, PO_s, BG_s, BD_s, SD_s, SE_s, SK_s, hf_states, hcu_s, heg_s, hpo_s, hbg_s, hbd_s, hsd_s, hse__s, hstk_s, jcu_s, ccn_s, cms_s, cvr_s, jbg_s, jpo_s, jbd_s, jeg_s, cro_s⟩ := pstI_f_states
  refine zz_ldc2 400 d_PW_settle_0 cn_PW_253 ?_
  refine ab_iload_n d_PW_settle_3 rfl ?_
  refine zz_bipush d_PW_settle_4 (by decide) ?_
  refine zz_iadd d_PW_settle_6 ?_
  refine zz_i2l d_PW_settle_7 (by omega) ?_
  refine zz_lmul d_PW_settle_8 ?_
  refine ab_aload_n d_PW_settle_9 rfl ?_
  refine ab_getf (fs := [vR f_ready, vR f_tape, vR f_reader, vR f_programs, vR f_subject, vR f_spans, vR f_threads, vR f_marks, vR f_oneMind, vR f_states, vR f_latest, vR f_matches, vR f_pieces, vR f_template, vR f_result, vR f_spare, vz cmp, vz ovs]) f_PW_38 d_PW_settle_10 hw_.2.2 rfl ?_
  refine ab_getf (fs := [vR by_, vR co, vR re, vR ho, vz n]) f_PW_164 d_PW_settle_13 hf_subject.2.2 rfl ?_
  refine zz_bipush d_PW_settle_16 (by decide) ?_
  refine zz_iadd d_PW_settle_18 ?_
  refine zz_i2l d_PW_settle_19 (by omega) ?_
  refine zz_lmul d_PW_settle_20 ?_
  refine ab_iload_n d_PW_settle_21 rfl ?_
  refine zz_iconst d_PW_settle_22 ?_
  refine zz_iadd d_PW_settle_23 ?_
  refine zz_i2l d_PW_settle_24 (by omega) ?_
  refine zz_lmul d_PW_settle_25 ?_
  refine ab_lstore_n d_PW_settle_26 (Nat.le_of_ble_eq_true rfl) (Nat.le_of_ble_eq_true rfl) rfl ?_
  change ab_W _ _ _ G 27 [some (vR w_), some (vz z1), some (vz z2), some (vj (((400 * (z1 + 20)) * (n + 20)) * (z2 + 1))), none, none, none] [] _
  refine ab_aload_n d_PW_settle_27 rfl ?_
  refine ab_getf (fs := [vR f_ready, vR f_tape, vR f_reader, vR f_programs, vR f_subject, vR f_spans, vR f_threads, vR f_marks, vR f_oneMind, vR f_states, vR f_latest, vR f_matches, vR f_pieces, vR f_template, vR f_result, vR f_spare, vz cmp, vz ovs]) f_PW_48 d_PW_settle_28 hw_.2.2 rfl ?_
  refine ab_getf (fs := [sp0_t, vR wk_t, vR nw_t, vR tn_t, vR nsp_t, vR tsp_t, vz nc_t, vz tc_t, vR se_t, vz sta_t, vR stk_t, vz fo_t, q0_t, s0_t, vz hw_t, vz fy_t, vj stp_t]) f_PW_255 d_PW_settle_31 hf_threads.2.2 rfl ?_
  refine ab_aload_n d_PW_settle_34 rfl ?_
  refine ab_getf (fs := [vR f_ready, vR f_tape, vR f_reader, vR f_programs, vR f_subject, vR f_spans, vR f_threads, vR f_marks, vR f_oneMind, vR f_states, vR f_latest, vR f_matches, vR f_pieces, vR f_template, vR f_result, vR f_spare, vz cmp, vz ovs]) f_PW_55 d_PW_settle_35 hw_.2.2 rfl ?_
  refine ab_getf (fs := [sp0_k, vR wk_k, vR mk_k, vz w_k, vz df_k, vR stk_k, vz dp_k, vz fo_k, vz fy_k, vz hw_k, q0_k, s0_k, vj stp_k]) f_PW_259 d_PW_settle_38 hf_marks.2.2 rfl ?_
  refine zz_ladd d_PW_settle_41 ?_
  refine ab_aload_n d_PW_settle_42 rfl ?_
  refine ab_getf (fs := [vR f_ready, vR f_tape, vR f_reader, vR f_programs, vR f_subject, vR f_spans, vR f_threads, vR f_marks, vR f_oneMind, vR f_states, vR f_latest, vR f_matches, vR f_pieces, vR f_template, vR f_result, vR f_spare, vz cmp, vz ovs]) f_PW_62 d_PW_settle_43 hw_.2.2 rfl ?_
  refine ab_getf (fs := [sp0_o, vR wk_o, vR onw_o, vR tkn_o, vR se__o, vR cle_o, vR stk_o, vz dp_o, vz fo_o, vz chn_o, q0_o, s0_o, vz hw_o, vz fy_o, vj stp_o]) f_PW_260 d_PW_settle_46 hf_oneMind.2.2 rfl ?_
  refine zz_ladd d_PW_settle_49 ?_
  refine ab_aload_n d_PW_settle_50 rfl ?_
  refine ab_getf (fs := [vR f_ready, vR f_tape, vR f_reader, vR f_programs, vR f_subject, vR f_spans, vR f_threads, vR f_marks, vR f_oneMind, vR f_states, vR f_latest, vR f_matches, vR f_pieces, vR f_template, vR f_result, vR f_spare, vz cmp, vz ovs]) f_PW_69 d_PW_settle_51 hw_.2.2 rfl ?_
  refine ab_getf (fs := [vz mst_s, q0_s, vz vr_s, vz ro_s, vR cu_s, vz cn_s, vR eg_s, vR po_s, vR bg_s, vR bd_s, vz ct_s, vR sd_s, vz sc_s, vR se__s, vz sta_s, vR stk_s, vz arv_s, vj stp_s]) f_PW_261 d_PW_settle_54 hf_states.2.2 rfl ?_
  refine zz_ladd d_PW_settle_57 ?_
  refine ab_lstore d_PW_settle_58 (Nat.le_of_ble_eq_true rfl) (Nat.le_of_ble_eq_true rfl) rfl ?_
  change ab_W _ _ _ G 60 [some (vR w_), some (vz z1), some (vz z2), some (vj (((400 * (z1 + 20)) * (n + 20)) * (z2 + 1))), none, some (vj (((stp_t + stp_k) + stp_o) + stp_s)), none] [] _
  refine ab_lload d_PW_settle_60 rfl ?_
  refine ab_lload_n d_PW_settle_62 rfl ?_
  refine zz_lcmpA d_PW_settle_63 (fun v1 hv1 => ?_)
  refine zz_if_le (tgt := 77) d_PW_settle_64 (by decide) (by omega) (fun c2 => ?_) (fun c2 => ?_)
  · refine ab_aload_n d_PW_settle_77 rfl ?_
    refine ab_getf (fs := [vR f_ready, vR f_tape, vR f_reader, vR f_programs, vR f_subject, vR f_spans, vR f_threads, vR f_marks, vR f_oneMind, vR f_states, vR f_latest, vR f_matches, vR f_pieces, vR f_template, vR f_result, vR f_spare, vz cmp, vz ovs]) f_PW_48 d_PW_settle_78 hw_.2.2 rfl ?_
    refine zz_lconst d_PW_settle_81 ?_
    change ab_W _ _ _ G 82 [some (vR w_), some (vz z1), some (vz z2), some (vj (((400 * (z1 + 20)) * (n + 20)) * (z2 + 1))), none, some (vj (((stp_t + stp_k) + stp_o) + stp_s)), none] [vj 0, vR f_threads] _
    refine ab_putf (fs := [sp0_t, vR wk_t, vR nw_t, vR tn_t, vR nsp_t, vR tsp_t, vz nc_t, vz tc_t, vR se_t, vz sta_t, vR stk_t, vz fo_t, q0_t, s0_t, vz hw_t, vz fy_t, vj stp_t]) f_PW_255 (Or.inl rfl) d_PW_settle_82 hf_threads.2.2 (Nat.le_of_ble_eq_true rfl) (fun _ => ⟨rfl, rfl⟩) (hf_threads.2.1 (by decide)) ?_
    obtain ⟨G3, eG3⟩ : ∃ z : ab_G, z = List.set G f_threads (ab_ob 11 [sp0_t, vR wk_t, vR nw_t, vR tn_t, vR nsp_t, vR tsp_t, vz nc_t, vz tc_t, vR se_t, vz sta_t, vR stk_t, vz fo_t, q0_t, s0_t, vz hw_t, vz fy_t, vj 0]) := ⟨_, rfl⟩
    have hw_ := hw_.keep hf_threads eG3 (by decide)
    have hf_subject := hf_subject.keep hf_threads eG3 (by decide)
    have hby_ := hby_.keep hf_threads eG3 (by decide)
    have hco := hco.keep hf_threads eG3 (by decide)
    have hre := hre.keep hf_threads eG3 (by decide)
    have hho := hho.keep hf_threads eG3 (by decide)
    have hwk_t := hwk_t.keep hf_threads eG3 (by decide)
    have hnw_t := hnw_t.keep hf_threads eG3 (by omega)
    have htn_t := htn_t.keep hf_threads eG3 (by omega)
    have hnsp_t := hnsp_t.keep hf_threads eG3 (by omega)
    have htsp_t := htsp_t.keep hf_threads eG3 (by omega)
    have hse_t := hse_t.keep hf_threads eG3 (by decide)
    have hstk_t := hstk_t.keep hf_threads eG3 (by decide)
    have hf_marks := hf_marks.keep hf_threads eG3 (by decide)
    have hwk_k := hwk_k.keep hf_threads eG3 (by decide)
    have hmk_k := hmk_k.keep hf_threads eG3 (by decide)
    have hstk_k := hstk_k.keep hf_threads eG3 (by decide)
    have hf_oneMind := hf_oneMind.keep hf_threads eG3 (by decide)
    have hwk_o := hwk_o.keep hf_threads eG3 (by decide)
    have honw_o := honw_o.keep hf_threads eG3 (by decide)
    have hse__o := hse__o.keep hf_threads eG3 (by decide)
    have hcle_o := hcle_o.keep hf_threads eG3 (by decide)
    have hstk_o := hstk_o.keep hf_threads eG3 (by decide)
    have hf_states := hf_states.keep hf_threads eG3 (by decide)
    have hcu_s := hcu_s.keep hf_threads eG3 (by decide)
    have heg_s := heg_s.keep hf_threads eG3 (by decide)
    have hpo_s := hpo_s.keep hf_threads eG3 (by decide)
    have hbg_s := hbg_s.keep hf_threads eG3 (by decide)
    have hbd_s := hbd_s.keep hf_threads eG3 (by decide)
    have hsd_s := hsd_s.keep hf_threads eG3 (by decide)
    have hse__s := hse__s.keep hf_threads eG3 (by decide)
    have hstk_s := hstk_s.keep hf_threads eG3 (by decide)
    have hst := (fx.rf (o := o) (S := [32]) (G := G)).wr hf_threads eG3 (List.mem_singleton.mpr rfl)
    have pcsI_tkn_o := csI.fr hst pcsI_tkn_o (by decide) (by decide)
    have hlen := (z_len eG3).trans hlen
    have hsl := (z_sl hf_threads eG3 rfl).trans hsl
    have hfr := hfr.wr hf_threads eG3 (by decide)
    have hf_threads := hf_threads.kept eG3
    change ab_W _ _ _ (List.set G f_threads (ab_ob 11 [sp0_t, vR wk_t, vR nw_t, vR tn_t, vR nsp_t, vR tsp_t, vz nc_t, vz tc_t, vR se_t, vz sta_t, vR stk_t, vz fo_t, q0_t, s0_t, vz hw_t, vz fy_t, vj 0])) 85 [some (vR w_), some (vz z1), some (vz z2), some (vj (((400 * (z1 + 20)) * (n + 20)) * (z2 + 1))), none, some (vj (((stp_t + stp_k) + stp_o) + stp_s)), none] [] _
    rw [← eG3]
    refine ab_aload_n d_PW_settle_85 rfl ?_
    refine ab_getf (fs := [vR f_ready, vR f_tape, vR f_reader, vR f_programs, vR f_subject, vR f_spans, vR f_threads, vR f_marks, vR f_oneMind, vR f_states, vR f_latest, vR f_matches, vR f_pieces, vR f_template, vR f_result, vR f_spare, vz cmp, vz ovs]) f_PW_55 d_PW_settle_86 hw_.2.2 rfl ?_
    refine zz_lconst d_PW_settle_89 ?_
    change ab_W _ _ _ G3 90 [some (vR w_), some (vz z1), some (vz z2), some (vj (((400 * (z1 + 20)) * (n + 20)) * (z2 + 1))), none, some (vj (((stp_t + stp_k) + stp_o) + stp_s)), none] [vj 0, vR f_marks] _
    refine ab_putf (fs := [sp0_k, vR wk_k, vR mk_k, vz w_k, vz df_k, vR stk_k, vz dp_k, vz fo_k, vz fy_k, vz hw_k, q0_k, s0_k, vj stp_k]) f_PW_259 (Or.inl rfl) d_PW_settle_90 hf_marks.2.2 (Nat.le_of_ble_eq_true rfl) (fun _ => ⟨rfl, rfl⟩) (hf_marks.2.1 (by decide)) ?_
    obtain ⟨G4, eG4⟩ : ∃ z : ab_G, z = List.set G3 f_marks (ab_ob 2 [sp0_k, vR wk_k, vR mk_k, vz w_k, vz df_k, vR stk_k, vz dp_k, vz fo_k, vz fy_k, vz hw_k, q0_k, s0_k, vj 0]) := ⟨_, rfl⟩
    have hw_ := hw_.keep hf_marks eG4 (by decide)
    have hf_subject := hf_subject.keep hf_marks eG4 (by decide)
    have hby_ := hby_.keep hf_marks eG4 (by decide)
    have hco := hco.keep hf_marks eG4 (by decide)
    have hre := hre.keep hf_marks eG4 (by decide)
    have hho := hho.keep hf_marks eG4 (by decide)
    have hf_threads := hf_threads.keep hf_marks eG4 (by decide)
    have hwk_t := hwk_t.keep hf_marks eG4 (by decide)
    have hnw_t := hnw_t.keep hf_marks eG4 (by omega)
    have htn_t := htn_t.keep hf_marks eG4 (by omega)
    have hnsp_t := hnsp_t.keep hf_marks eG4 (by omega)
    have htsp_t := htsp_t.keep hf_marks eG4 (by omega)
    have hse_t := hse_t.keep hf_marks eG4 (by decide)
    have hstk_t := hstk_t.keep hf_marks eG4 (by decide)
    have hwk_k := hwk_k.keep hf_marks eG4 (by decide)
    have hmk_k := hmk_k.keep hf_marks eG4 (by decide)
    have hstk_k := hstk_k.keep hf_marks eG4 (by decide)
    have hf_oneMind := hf_oneMind.keep hf_marks eG4 (by decide)
    have hwk_o := hwk_o.keep hf_marks eG4 (by decide)
    have honw_o := honw_o.keep hf_marks eG4 (by decide)
    have hse__o := hse__o.keep hf_marks eG4 (by decide)
    have hcle_o := hcle_o.keep hf_marks eG4 (by decide)
    have hstk_o := hstk_o.keep hf_marks eG4 (by decide)
    have hf_states := hf_states.keep hf_marks eG4 (by decide)
    have hcu_s := hcu_s.keep hf_marks eG4 (by decide)
    have heg_s := heg_s.keep hf_marks eG4 (by decide)
    have hpo_s := hpo_s.keep hf_marks eG4 (by decide)
    have hbg_s := hbg_s.keep hf_marks eG4 (by decide)
    have hbd_s := hbd_s.keep hf_marks eG4 (by decide)
    have hsd_s := hsd_s.keep hf_marks eG4 (by decide)
    have hse__s := hse__s.keep hf_marks eG4 (by decide)
    have hstk_s := hstk_s.keep hf_marks eG4 (by decide)
    have hst := (fx.rf (o := o) (S := [44]) (G := G3)).wr hf_marks eG4 (List.mem_singleton.mpr rfl)
    have pcsI_tkn_o := csI.fr hst pcsI_tkn_o (by decide) (by decide)
    have hlen := (z_len eG4).trans hlen
    have hsl := (z_sl hf_marks eG4 rfl).trans hsl
    have hfr := hfr.wr hf_marks eG4 (by decide)
    have hf_marks := hf_marks.kept eG4
    change ab_W _ _ _ (List.set G3 f_marks (ab_ob 2 [sp0_k, vR wk_k, vR mk_k, vz w_k, vz df_k, vR stk_k, vz dp_k, vz fo_k, vz fy_k, vz hw_k, q0_k, s0_k, vj 0])) 93 [some (vR w_), some (vz z1), some (vz z2), some (vj (((400 * (z1 + 20)) * (n + 20)) * (z2 + 1))), none, some (vj (((stp_t + stp_k) + stp_o) + stp_s)), none] [] _
    rw [← eG4]
    refine ab_aload_n d_PW_settle_93 rfl ?_
    refine ab_getf (fs := [vR f_ready, vR f_tape, vR f_reader, vR f_programs, vR f_subject, vR f_spans, vR f_threads, vR f_marks, vR f_oneMind, vR f_states, vR f_latest, vR f_matches, vR f_pieces, vR f_template, vR f_result, vR f_spare, vz cmp, vz ovs]) f_PW_62 d_PW_settle_94 hw_.2.2 rfl ?_
    refine zz_lconst d_PW_settle_97 ?_
    change ab_W _ _ _ G4 98 [some (vR w_), some (vz z1), some (vz z2), some (vj (((400 * (z1 + 20)) * (n + 20)) * (z2 + 1))), none, some (vj (((stp_t + stp_k) + stp_o) + stp_s)), none] [vj 0, vR f_oneMind] _
    refine ab_putf (fs := [sp0_o, vR wk_o, vR onw_o, vR tkn_o, vR se__o, vR cle_o, vR stk_o, vz dp_o, vz fo_o, vz chn_o, q0_o, s0_o, vz hw_o, vz fy_o, vj stp_o]) f_PW_260 (Or.inl rfl) d_PW_settle_98 hf_oneMind.2.2 (Nat.le_of_ble_eq_true rfl) (fun _ => ⟨rfl, rfl⟩) (hf_oneMind.2.1 (by decide)) ?_
    obtain ⟨G5, eG5⟩ : ∃ z : ab_G, z = List.set G4 f_oneMind (ab_ob 3 [sp0_o, vR wk_o, vR onw_o, vR tkn_o, vR se__o, vR cle_o, vR stk_o, vz dp_o, vz fo_o, vz chn_o, q0_o, s0_o, vz hw_o, vz fy_o, vj 0]) := ⟨_, rfl⟩
    have hw_ := hw_.keep hf_oneMind eG5 (by decide)
    have hf_subject := hf_subject.keep hf_oneMind eG5 (by decide)
    have hby_ := hby_.keep hf_oneMind eG5 (by decide)
    have hco := hco.keep hf_oneMind eG5 (by decide)
    have hre := hre.keep hf_oneMind eG5 (by decide)
    have hho := hho.keep hf_oneMind eG5 (by decide)
    have hf_threads := hf_threads.keep hf_oneMind eG5 (by decide)
    have hwk_t := hwk_t.keep hf_oneMind eG5 (by decide)
    have hnw_t := hnw_t.keep hf_oneMind eG5 (by omega)
    have htn_t := htn_t.keep hf_oneMind eG5 (by omega)
    have hnsp_t := hnsp_t.keep hf_oneMind eG5 (by omega)
    have htsp_t := htsp_t.keep hf_oneMind eG5 (by omega)
    have hse_t := hse_t.keep hf_oneMind eG5 (by decide)
    have hstk_t := hstk_t.keep hf_oneMind eG5 (by decide)
    have hf_marks := hf_marks.keep hf_oneMind eG5 (by decide)
    have hwk_k := hwk_k.keep hf_oneMind eG5 (by decide)
    have hmk_k := hmk_k.keep hf_oneMind eG5 (by decide)
    have hstk_k := hstk_k.keep hf_oneMind eG5 (by decide)
    have hwk_o := hwk_o.keep hf_oneMind eG5 (by decide)
    have honw_o := honw_o.keep hf_oneMind eG5 (by decide)
    have hse__o := hse__o.keep hf_oneMind eG5 (by decide)
    have hcle_o := hcle_o.keep hf_oneMind eG5 (by decide)
    have hstk_o := hstk_o.keep hf_oneMind eG5 (by decide)
    have hf_states := hf_states.keep hf_oneMind eG5 (by decide)
    have hcu_s := hcu_s.keep hf_oneMind eG5 (by decide)
    have heg_s := heg_s.keep hf_oneMind eG5 (by decide)
    have hpo_s := hpo_s.keep hf_oneMind eG5 (by decide)
    have hbg_s := hbg_s.keep hf_oneMind eG5 (by decide)
    have hbd_s := hbd_s.keep hf_oneMind eG5 (by decide)
    have hsd_s := hsd_s.keep hf_oneMind eG5 (by decide)
    have hse__s := hse__s.keep hf_oneMind eG5 (by decide)
    have hstk_s := hstk_s.keep hf_oneMind eG5 (by decide)
    have hst := (fx.rf (o := o) (S := [50]) (G := G4)).wr hf_oneMind eG5 (List.mem_singleton.mpr rfl)
    have pcsI_tkn_o := csI.fr hst pcsI_tkn_o (by decide) (by decide)
    have hlen := (z_len eG5).trans hlen
    have hsl := (z_sl hf_oneMind eG5 rfl).trans hsl
    have hfr := hfr.wr hf_oneMind eG5 (by decide)
    have hf_oneMind := hf_oneMind.kept eG5
    change ab_W _ _ _ (List.set G4 f_oneMind (ab_ob 3 [sp0_o, vR wk_o, vR onw_o, vR tkn_o, vR se__o, vR cle_o, vR stk_o, vz dp_o, vz fo_o, vz chn_o, q0_o, s0_o, vz hw_o, vz fy_o, vj 0])) 101 [some (vR w_), some (vz z1), some (vz z2), some (vj (((400 * (z1 + 20)) * (n + 20)) * (z2 + 1))), none, some (vj (((stp_t + stp_k) + stp_o) + stp_s)), none] [] _
    rw [← eG5]
    refine ab_aload_n d_PW_settle_101 rfl ?_
    refine ab_getf (fs := [vR f_ready, vR f_tape, vR f_reader, vR f_programs, vR f_subject, vR f_spans, vR f_threads, vR f_marks, vR f_oneMind, vR f_states, vR f_latest, vR f_matches, vR f_pieces, vR f_template, vR f_result, vR f_spare, vz cmp, vz ovs]) f_PW_69 d_PW_settle_102 hw_.2.2 rfl ?_
    refine zz_lconst d_PW_settle_105 ?_
    change ab_W _ _ _ G5 106 [some (vR w_), some (vz z1), some (vz z2), some (vj (((400 * (z1 + 20)) * (n + 20)) * (z2 + 1))), none, some (vj (((stp_t + stp_k) + stp_o) + stp_s)), none] [vj 0, vR f_states] _
    refine ab_putf (fs := [vz mst_s, q0_s, vz vr_s, vz ro_s, vR cu_s, vz cn_s, vR eg_s, vR po_s, vR bg_s, vR bd_s, vz ct_s, vR sd_s, vz sc_s, vR se__s, vz sta_s, vR stk_s, vz arv_s, vj stp_s]) f_PW_261 (Or.inl rfl) d_PW_settle_106 hf_states.2.2 (Nat.le_of_ble_eq_true rfl) (fun _ => ⟨rfl, rfl⟩) (hf_states.2.1 (by decide)) ?_
    obtain ⟨G6, eG6⟩ : ∃ z : ab_G, z = List.set G5 f_states (ab_ob 8 [vz mst_s, q0_s, vz vr_s, vz ro_s, vR cu_s, vz cn_s, vR eg_s, vR po_s, vR bg_s, vR bd_s, vz ct_s, vR sd_s, vz sc_s, vR se__s, vz sta_s, vR stk_s, vz arv_s, vj 0]) := ⟨_, rfl⟩
    have hw_ := hw_.keep hf_states eG6 (by decide)
    have hf_subject := hf_subject.keep hf_states eG6 (by decide)
    have hby_ := hby_.keep hf_states eG6 (by decide)
    have hco := hco.keep hf_states eG6 (by decide)
    have hre := hre.keep hf_states eG6 (by decide)
    have hho := hho.keep hf_states eG6 (by decide)
    have hf_threads := hf_threads.keep hf_states eG6 (by decide)
    have hwk_t := hwk_t.keep hf_states eG6 (by decide)
    have hnw_t := hnw_t.keep hf_states eG6 (by omega)
    have htn_t := htn_t.keep hf_states eG6 (by omega)
    have hnsp_t := hnsp_t.keep hf_states eG6 (by omega)
    have htsp_t := htsp_t.keep hf_states eG6 (by omega)
    have hse_t := hse_t.keep hf_states eG6 (by decide)
    have hstk_t := hstk_t.keep hf_states eG6 (by decide)
    have hf_marks := hf_marks.keep hf_states eG6 (by decide)
    have hwk_k := hwk_k.keep hf_states eG6 (by decide)
    have hmk_k := hmk_k.keep hf_states eG6 (by decide)
    have hstk_k := hstk_k.keep hf_states eG6 (by decide)
    have hf_oneMind := hf_oneMind.keep hf_states eG6 (by decide)
    have hwk_o := hwk_o.keep hf_states eG6 (by decide)
    have honw_o := honw_o.keep hf_states eG6 (by decide)
    have hse__o := hse__o.keep hf_states eG6 (by decide)
    have hcle_o := hcle_o.keep hf_states eG6 (by decide)
    have hstk_o := hstk_o.keep hf_states eG6 (by decide)
    have hcu_s := hcu_s.keep hf_states eG6 (by decide)
    have heg_s := heg_s.keep hf_states eG6 (by decide)
    have hpo_s := hpo_s.keep hf_states eG6 (by decide)
    have hbg_s := hbg_s.keep hf_states eG6 (by decide)
    have hbd_s := hbd_s.keep hf_states eG6 (by decide)
    have hsd_s := hsd_s.keep hf_states eG6 (by decide)
    have hse__s := hse__s.keep hf_states eG6 (by decide)
    have hstk_s := hstk_s.keep hf_states eG6 (by decide)
    have hst := (fx.rf (o := o) (S := [60]) (G := G5)).wr hf_states eG6 (List.mem_singleton.mpr rfl)
    have pcsI_tkn_o := csI.fr hst pcsI_tkn_o (by decide) (by decide)
    have hlen := (z_len eG6).trans hlen
    have hsl := (z_sl hf_states eG6 rfl).trans hsl
    have hfr := hfr.wr hf_states eG6 (by decide)
    have hf_states := hf_states.kept eG6
    change ab_W _ _ _ (List.set G5 f_states (ab_ob 8 [vz mst_s, q0_s, vz vr_s, vz ro_s, vR cu_s, vz cn_s, vR eg_s, vR po_s, vR bg_s, vR bd_s, vz ct_s, vR sd_s, vz sc_s, vR se__s, vz sta_s, vR stk_s, vz arv_s, vj 0])) 109 [some (vR w_), some (vz z1), some (vz z2), some (vj (((400 * (z1 + 20)) * (n + 20)) * (z2 + 1))), none, some (vj (((stp_t + stp_k) + stp_o) + stp_s)), none] [] _
    rw [← eG6]
    have psuI_f_subject : suI o G6 f_subject n m f := ⟨by_, co, re, ho, C, Rs, H, mc, hf_subject, hby_, hco, hre, hho, (by omega), hsu⟩
    have pthI_f_threads : thI o G6 f_threads := ⟨wk_t, nw_t, tn_t, nsp_t, tsp_t, se_t, stk_t, nc_t, tc_t, sta_t, fo_t, hw_t, fy_t, 0, WK_t, NW_t, TN_t, NS_t, TS_t, SE_t, SK_t, l1_t, l2_t, l3_t, l4_t, sp0_t, q0_t, s0_t, hf_threads, hwk_t, hnw_t, htn_t, hnsp_t, htsp_t, hse_t, hstk_t, (by omega), jse_t, (by omega)⟩
    have pmkI_f_marks : mkI o G6 f_marks nm ns := ⟨wk_k, mk_k, stk_k, w_k, df_k, dp_k, fo_k, fy_k, hw_k, 0, WK_k, M_k, SK_k, sp0_k, q0_k, s0_k, hf_marks, hwk_k, hmk_k, hstk_k, (by omega), hst_k, (by omega)⟩
    have pomI_f_oneMind : omI o G6 f_oneMind on nt := ⟨wk_o, onw_o, tkn_o, se__o, cle_o, stk_o, dp_o, fo_o, chn_o, hw_o, fy_o, 0, WK_o, ON_o, SK_o, sp0_o, q0_o, s0_o, SE_o, CL_o, ct_o, P_o, nk_o, hf_oneMind, hwk_o, honw_o, hse__o, hcle_o, hstk_o, pcsI_tkn_o, hon_o, (by omega)⟩
    have pstI_f_states : stI o G6 f_states cv cmp := ⟨cu_s, eg_s, po_s, bg_s, bd_s, sd_s, se__s, stk_s, mst_s, q0_s, vr_s, ro_s, cn_s, ct_s, sc_s, sta_s, arv_s, 0, CU_s, EG_s, PO_s, BG_s, BD_s, SD_s, SE_s, SK_s, hf_states, hcu_s, heg_s, hpo_s, hbg_s, hbd_s, hsd_s, hse__s, hstk_s, jcu_s, (by omega), (by omega), (by omega), jbg_s, jpo_s, jbd_s, jeg_s, (by omega)⟩
    refine ab_vret rfl d_PW_settle_109 ?_
    rw [hQ]; exact ⟨_, rfl, hfr, hlen, hsl, hw_, pthI_f_threads, pmkI_f_marks, pomI_f_oneMind, pstI_f_states, psuI_f_subject⟩
  · refine ab_aload_n d_PW_settle_67 rfl ?_
    refine ab_dup d_PW_settle_68 rfl ?_
    refine ab_getf (fs := [vR f_ready, vR f_tape, vR f_reader, vR f_programs, vR f_subject, vR f_spans, vR f_threads, vR f_marks, vR f_oneMind, vR f_states, vR f_latest, vR f_matches, vR f_pieces, vR f_template, vR f_result, vR f_spare, vz cmp, vz ovs]) f_PW_240 d_PW_settle_69 hw_.2.2 rfl ?_
    refine zz_iconst d_PW_settle_72 ?_
    refine zz_iadd d_PW_settle_73 ?_
    refine ab_putf (fs := [vR f_ready, vR f_tape, vR f_reader, vR f_programs, vR f_subject, vR f_spans, vR f_threads, vR f_marks, vR f_oneMind, vR f_states, vR f_latest, vR f_matches, vR f_pieces, vR f_template, vR f_result, vR f_spare, vz cmp, vz ovs]) f_PW_240 (Or.inl rfl) d_PW_settle_74 hw_.2.2 (Nat.le_of_ble_eq_true rfl) (fun _ => ⟨rfl, rfl⟩) (hw_.2.1 (by decide)) ?_
    obtain ⟨G7, eG7⟩ : ∃ z : ab_G, z = List.set G w_ (ab_ob 0 [vR f_ready, vR f_tape, vR f_reader, vR f_programs, vR f_subject, vR f_spans, vR f_threads, vR f_marks, vR f_oneMind, vR f_states, vR f_latest, vR f_matches, vR f_pieces, vR f_template, vR f_result, vR f_spare, vz cmp, vz (ovs + 1)]) := ⟨_, rfl⟩
    have hf_subject := hf_subject.keep hw_ eG7 (by decide)
    have hby_ := hby_.keep hw_ eG7 (by decide)
    have hco := hco.keep hw_ eG7 (by decide)
    have hre := hre.keep hw_ eG7 (by decide)
    have hho := hho.keep hw_ eG7 (by decide)
    have hf_threads := hf_threads.keep hw_ eG7 (by decide)
    have hwk_t := hwk_t.keep hw_ eG7 (by decide)
    have hnw_t := hnw_t.keep hw_ eG7 (by omega)
    have htn_t := htn_t.keep hw_ eG7 (by omega)
    have hnsp_t := hnsp_t.keep hw_ eG7 (by omega)
    have htsp_t := htsp_t.keep hw_ eG7 (by omega)
    have hse_t := hse_t.keep hw_ eG7 (by decide)
    have hstk_t := hstk_t.keep hw_ eG7 (by decide)
    have hf_marks := hf_marks.keep hw_ eG7 (by decide)
    have hwk_k := hwk_k.keep hw_ eG7 (by decide)
    have hmk_k := hmk_k.keep hw_ eG7 (by decide)
    have hstk_k := hstk_k.keep hw_ eG7 (by decide)
    have hf_oneMind := hf_oneMind.keep hw_ eG7 (by decide)
    have hwk_o := hwk_o.keep hw_ eG7 (by decide)
    have honw_o := honw_o.keep hw_ eG7 (by decide)
    have hse__o := hse__o.keep hw_ eG7 (by decide)
    have hcle_o := hcle_o.keep hw_ eG7 (by decide)
    have hstk_o := hstk_o.keep hw_ eG7 (by decide)
    have hf_states := hf_states.keep hw_ eG7 (by decide)
    have hcu_s := hcu_s.keep hw_ eG7 (by decide)
    have heg_s := heg_s.keep hw_ eG7 (by decide)
    have hpo_s := hpo_s.keep hw_ eG7 (by decide)
    have hbg_s := hbg_s.keep hw_ eG7 (by decide)
    have hbd_s := hbd_s.keep hw_ eG7 (by decide)
    have hsd_s := hsd_s.keep hw_ eG7 (by decide)
    have hse__s := hse__s.keep hw_ eG7 (by decide)
    have hstk_s := hstk_s.keep hw_ eG7 (by decide)
    have hst := (fx.rf (o := o) (S := [18]) (G := G)).wr hw_ eG7 (List.mem_singleton.mpr rfl)
    have pcsI_tkn_o := csI.fr hst pcsI_tkn_o (by decide) (by decide)
    have hlen := (z_len eG7).trans hlen
    have hsl := (z_sl hw_ eG7 rfl).trans hsl
    have hfr := hfr.wr hw_ eG7 (by decide)
    have hw_ := hw_.kept eG7
    change ab_W _ _ _ (List.set G w_ (ab_ob 0 [vR f_ready, vR f_tape, vR f_reader, vR f_programs, vR f_subject, vR f_spans, vR f_threads, vR f_marks, vR f_oneMind, vR f_states, vR f_latest, vR f_matches, vR f_pieces, vR f_template, vR f_result, vR f_spare, vz cmp, vz (ovs + 1)])) 77 [some (vR w_), some (vz z1), some (vz z2), some (vj (((400 * (z1 + 20)) * (n + 20)) * (z2 + 1))), none, some (vj (((stp_t + stp_k) + stp_o) + stp_s)), none] [] _
    rw [← eG7]
    refine ab_aload_n d_PW_settle_77 rfl ?_
    refine ab_getf (fs := [vR f_ready, vR f_tape, vR f_reader, vR f_programs, vR f_subject, vR f_spans, vR f_threads, vR f_marks, vR f_oneMind, vR f_states, vR f_latest, vR f_matches, vR f_pieces, vR f_template, vR f_result, vR f_spare, vz cmp, vz (ovs + 1)]) f_PW_48 d_PW_settle_78 hw_.2.2 rfl ?_
    refine zz_lconst d_PW_settle_81 ?_
    change ab_W _ _ _ G7 82 [some (vR w_), some (vz z1), some (vz z2), some (vj (((400 * (z1 + 20)) * (n + 20)) * (z2 + 1))), none, some (vj (((stp_t + stp_k) + stp_o) + stp_s)), none] [vj 0, vR f_threads] _
    refine ab_putf (fs := [sp0_t, vR wk_t, vR nw_t, vR tn_t, vR nsp_t, vR tsp_t, vz nc_t, vz tc_t, vR se_t, vz sta_t, vR stk_t, vz fo_t, q0_t, s0_t, vz hw_t, vz fy_t, vj stp_t]) f_PW_255 (Or.inl rfl) d_PW_settle_82 hf_threads.2.2 (Nat.le_of_ble_eq_true rfl) (fun _ => ⟨rfl, rfl⟩) (hf_threads.2.1 (by decide)) ?_
    obtain ⟨G8, eG8⟩ : ∃ z : ab_G, z = List.set G7 f_threads (ab_ob 11 [sp0_t, vR wk_t, vR nw_t, vR tn_t, vR nsp_t, vR tsp_t, vz nc_t, vz tc_t, vR se_t, vz sta_t, vR stk_t, vz fo_t, q0_t, s0_t, vz hw_t, vz fy_t, vj 0]) := ⟨_, rfl⟩
    have hw_ := hw_.keep hf_threads eG8 (by decide)
    have hf_subject := hf_subject.keep hf_threads eG8 (by decide)
    have hby_ := hby_.keep hf_threads eG8 (by decide)
    have hco := hco.keep hf_threads eG8 (by decide)
    have hre := hre.keep hf_threads eG8 (by decide)
    have hho := hho.keep hf_threads eG8 (by decide)
    have hwk_t := hwk_t.keep hf_threads eG8 (by decide)
    have hnw_t := hnw_t.keep hf_threads eG8 (by omega)
    have htn_t := htn_t.keep hf_threads eG8 (by omega)
    have hnsp_t := hnsp_t.keep hf_threads eG8 (by omega)
    have htsp_t := htsp_t.keep hf_threads eG8 (by omega)
    have hse_t := hse_t.keep hf_threads eG8 (by decide)
    have hstk_t := hstk_t.keep hf_threads eG8 (by decide)
    have hf_marks := hf_marks.keep hf_threads eG8 (by decide)
    have hwk_k := hwk_k.keep hf_threads eG8 (by decide)
    have hmk_k := hmk_k.keep hf_threads eG8 (by decide)
    have hstk_k := hstk_k.keep hf_threads eG8 (by decide)
    have hf_oneMind := hf_oneMind.keep hf_threads eG8 (by decide)
    have hwk_o := hwk_o.keep hf_threads eG8 (by decide)
    have honw_o := honw_o.keep hf_threads eG8 (by decide)
    have hse__o := hse__o.keep hf_threads eG8 (by decide)
    have hcle_o := hcle_o.keep hf_threads eG8 (by decide)
    have hstk_o := hstk_o.keep hf_threads eG8 (by decide)
    have hf_states := hf_states.keep hf_threads eG8 (by decide)
    have hcu_s := hcu_s.keep hf_threads eG8 (by decide)
    have heg_s := heg_s.keep hf_threads eG8 (by decide)
    have hpo_s := hpo_s.keep hf_threads eG8 (by decide)
    have hbg_s := hbg_s.keep hf_threads eG8 (by decide)
    have hbd_s := hbd_s.keep hf_threads eG8 (by decide)
    have hsd_s := hsd_s.keep hf_threads eG8 (by decide)
    have hse__s := hse__s.keep hf_threads eG8 (by decide)
    have hstk_s := hstk_s.keep hf_threads eG8 (by decide)
    have hst := (fx.rf (o := o) (S := [32]) (G := G7)).wr hf_threads eG8 (List.mem_singleton.mpr rfl)
    have pcsI_tkn_o := csI.fr hst pcsI_tkn_o (by decide) (by decide)
    have hlen := (z_len eG8).trans hlen
    have hsl := (z_sl hf_threads eG8 rfl).trans hsl
    have hfr := hfr.wr hf_threads eG8 (by decide)
    have hf_threads := hf_threads.kept eG8
    change ab_W _ _ _ (List.set G7 f_threads (ab_ob 11 [sp0_t, vR wk_t, vR nw_t, vR tn_t, vR nsp_t, vR tsp_t, vz nc_t, vz tc_t, vR se_t, vz sta_t, vR stk_t, vz fo_t, q0_t, s0_t, vz hw_t, vz fy_t, vj 0])) 85 [some (vR w_), some (vz z1), some (vz z2), some (vj (((400 * (z1 + 20)) * (n + 20)) * (z2 + 1))), none, some (vj (((stp_t + stp_k) + stp_o) + stp_s)), none] [] _
    rw [← eG8]
    refine ab_aload_n d_PW_settle_85 rfl ?_
    refine ab_getf (fs := [vR f_ready, vR f_tape, vR f_reader, vR f_programs, vR f_subject, vR f_spans, vR f_threads, vR f_marks, vR f_oneMind, vR f_states, vR f_latest, vR f_matches, vR f_pieces, vR f_template, vR f_result, vR f_spare, vz cmp, vz (ovs + 1)]) f_PW_55 d_PW_settle_86 hw_.2.2 rfl ?_
    refine zz_lconst d_PW_settle_89 ?_
    change ab_W _ _ _ G8 90 [some (vR w_), some (vz z1), some (vz z2), some (vj (((400 * (z1 + 20)) * (n + 20)) * (z2 + 1))), none, some (vj (((stp_t + stp_k) + stp_o) + stp_s)), none] [vj 0, vR f_marks] _
    refine ab_putf (fs := [sp0_k, vR wk_k, vR mk_k, vz w_k, vz df_k, vR stk_k, vz dp_k, vz fo_k, vz fy_k, vz hw_k, q0_k, s0_k, vj stp_k]) f_PW_259 (Or.inl rfl) d_PW_settle_90 hf_marks.2.2 (Nat.le_of_ble_eq_true rfl) (fun _ => ⟨rfl, rfl⟩) (hf_marks.2.1 (by decide)) ?_
    obtain ⟨G9, eG9⟩ : ∃ z : ab_G, z = List.set G8 f_marks (ab_ob 2 [sp0_k, vR wk_k, vR mk_k, vz w_k, vz df_k, vR stk_k, vz dp_k, vz fo_k, vz fy_k, vz hw_k, q0_k, s0_k, vj 0]) := ⟨_, rfl⟩
    have hw_ := hw_.keep hf_marks eG9 (by decide)
    have hf_subject := hf_subject.keep hf_marks eG9 (by decide)
    have hby_ := hby_.keep hf_marks eG9 (by decide)
    have hco := hco.keep hf_marks eG9 (by decide)
    have hre := hre.keep hf_marks eG9 (by decide)
    have hho := hho.keep hf_marks eG9 (by decide)
    have hf_threads := hf_threads.keep hf_marks eG9 (by decide)
    have hwk_t := hwk_t.keep hf_marks eG9 (by decide)
    have hnw_t := hnw_t.keep hf_marks eG9 (by omega)
    have htn_t := htn_t.keep hf_marks eG9 (by omega)
    have hnsp_t := hnsp_t.keep hf_marks eG9 (by omega)
    have htsp_t := htsp_t.keep hf_marks eG9 (by omega)
    have hse_t := hse_t.keep hf_marks eG9 (by decide)
    have hstk_t := hstk_t.keep hf_marks eG9 (by decide)
    have hwk_k := hwk_k.keep hf_marks eG9 (by decide)
    have hmk_k := hmk_k.keep hf_marks eG9 (by decide)
    have hstk_k := hstk_k.keep hf_marks eG9 (by decide)
    have hf_oneMind := hf_oneMind.keep hf_marks eG9 (by decide)
    have hwk_o := hwk_o.keep hf_marks eG9 (by decide)
    have honw_o := honw_o.keep hf_marks eG9 (by decide)
    have hse__o := hse__o.keep hf_marks eG9 (by decide)
    have hcle_o := hcle_o.keep hf_marks eG9 (by decide)
    have hstk_o := hstk_o.keep hf_marks eG9 (by decide)
    have hf_states := hf_states.keep hf_marks eG9 (by decide)
    have hcu_s := hcu_s.keep hf_marks eG9 (by decide)
    have heg_s := heg_s.keep hf_marks eG9 (by decide)
    have hpo_s := hpo_s.keep hf_marks eG9 (by decide)
    have hbg_s := hbg_s.keep hf_marks eG9 (by decide)
    have hbd_s := hbd_s.keep hf_marks eG9 (by decide)
    have hsd_s := hsd_s.keep hf_marks eG9 (by decide)
    have hse__s := hse__s.keep hf_marks eG9 (by decide)
    have hstk_s := hstk_s.keep hf_marks eG9 (by decide)
    have hst := (fx.rf (o := o) (S := [44]) (G := G8)).wr hf_marks eG9 (List.mem_singleton.mpr rfl)
    have pcsI_tkn_o := csI.fr hst pcsI_tkn_o (by decide) (by decide)
    have hlen := (z_len eG9).trans hlen
    have hsl := (z_sl hf_marks eG9 rfl).trans hsl
    have hfr := hfr.wr hf_marks eG9 (by decide)
    have hf_marks := hf_marks.kept eG9
    change ab_W _ _ _ (List.set G8 f_marks (ab_ob 2 [sp0_k, vR wk_k, vR mk_k, vz w_k, vz df_k, vR stk_k, vz dp_k, vz fo_k, vz fy_k, vz hw_k, q0_k, s0_k, vj 0])) 93 [some (vR w_), some (vz z1), some (vz z2), some (vj (((400 * (z1 + 20)) * (n + 20)) * (z2 + 1))), none, some (vj (((stp_t + stp_k) + stp_o) + stp_s)), none] [] _
    rw [← eG9]
    refine ab_aload_n d_PW_settle_93 rfl ?_
    refine ab_getf (fs := [vR f_ready, vR f_tape, vR f_reader, vR f_programs, vR f_subject, vR f_spans, vR f_threads, vR f_marks, vR f_oneMind, vR f_states, vR f_latest, vR f_matches, vR f_pieces, vR f_template, vR f_result, vR f_spare, vz cmp, vz (ovs + 1)]) f_PW_62 d_PW_settle_94 hw_.2.2 rfl ?_
    refine zz_lconst d_PW_settle_97 ?_
    change ab_W _ _ _ G9 98 [some (vR w_), some (vz z1), some (vz z2), some (vj (((400 * (z1 + 20)) * (n + 20)) * (z2 + 1))), none, some (vj (((stp_t + stp_k) + stp_o) + stp_s)), none] [vj 0, vR f_oneMind] _
    refine ab_putf (fs := [sp0_o, vR wk_o, vR onw_o, vR tkn_o, vR se__o, vR cle_o, vR stk_o, vz dp_o, vz fo_o, vz chn_o, q0_o, s0_o, vz hw_o, vz fy_o, vj stp_o]) f_PW_260 (Or.inl rfl) d_PW_settle_98 hf_oneMind.2.2 (Nat.le_of_ble_eq_true rfl) (fun _ => ⟨rfl, rfl⟩) (hf_oneMind.2.1 (by decide)) ?_
    obtain ⟨G10, eG10⟩ : ∃ z : ab_G, z = List.set G9 f_oneMind (ab_ob 3 [sp0_o, vR wk_o, vR onw_o, vR tkn_o, vR se__o, vR cle_o, vR stk_o, vz dp_o, vz fo_o, vz chn_o, q0_o, s0_o, vz hw_o, vz fy_o, vj 0]) := ⟨_, rfl⟩
    have hw_ := hw_.keep hf_oneMind eG10 (by decide)
    have hf_subject := hf_subject.keep hf_oneMind eG10 (by decide)
    have hby_ := hby_.keep hf_oneMind eG10 (by decide)
    have hco := hco.keep hf_oneMind eG10 (by decide)
    have hre := hre.keep hf_oneMind eG10 (by decide)
    have hho := hho.keep hf_oneMind eG10 (by decide)
    have hf_threads := hf_threads.keep hf_oneMind eG10 (by decide)
    have hwk_t := hwk_t.keep hf_oneMind eG10 (by decide)
    have hnw_t := hnw_t.keep hf_oneMind eG10 (by omega)
    have htn_t := htn_t.keep hf_oneMind eG10 (by omega)
    have hnsp_t := hnsp_t.keep hf_oneMind eG10 (by omega)
    have htsp_t := htsp_t.keep hf_oneMind eG10 (by omega)
    have hse_t := hse_t.keep hf_oneMind eG10 (by decide)
    have hstk_t := hstk_t.keep hf_oneMind eG10 (by decide)
    have hf_marks := hf_marks.keep hf_oneMind eG10 (by decide)
    have hwk_k := hwk_k.keep hf_oneMind eG10 (by decide)
    have hmk_k := hmk_k.keep hf_oneMind eG10 (by decide)
    have hstk_k := hstk_k.keep hf_oneMind eG10 (by decide)
    have hwk_o := hwk_o.keep hf_oneMind eG10 (by decide)
    have honw_o := honw_o.keep hf_oneMind eG10 (by decide)
    have hse__o := hse__o.keep hf_oneMind eG10 (by decide)
    have hcle_o := hcle_o.keep hf_oneMind eG10 (by decide)
    have hstk_o := hstk_o.keep hf_oneMind eG10 (by decide)
    have hf_states := hf_states.keep hf_oneMind eG10 (by decide)
    have hcu_s := hcu_s.keep hf_oneMind eG10 (by decide)
    have heg_s := heg_s.keep hf_oneMind eG10 (by decide)
    have hpo_s := hpo_s.keep hf_oneMind eG10 (by decide)
    have hbg_s := hbg_s.keep hf_oneMind eG10 (by decide)
    have hbd_s := hbd_s.keep hf_oneMind eG10 (by decide)
    have hsd_s := hsd_s.keep hf_oneMind eG10 (by decide)
    have hse__s := hse__s.keep hf_oneMind eG10 (by decide)
    have hstk_s := hstk_s.keep hf_oneMind eG10 (by decide)
    have hst := (fx.rf (o := o) (S := [50]) (G := G9)).wr hf_oneMind eG10 (List.mem_singleton.mpr rfl)
    have pcsI_tkn_o := csI.fr hst pcsI_tkn_o (by decide) (by decide)
    have hlen := (z_len eG10).trans hlen
    have hsl := (z_sl hf_oneMind eG10 rfl).trans hsl
    have hfr := hfr.wr hf_oneMind eG10 (by decide)
    have hf_oneMind := hf_oneMind.kept eG10
    change ab_W _ _ _ (List.set G9 f_oneMind (ab_ob 3 [sp0_o, vR wk_o, vR onw_o, vR tkn_o, vR se__o, vR cle_o, vR stk_o, vz dp_o, vz fo_o, vz chn_o, q0_o, s0_o, vz hw_o, vz fy_o, vj 0])) 101 [some (vR w_), some (vz z1), some (vz z2), some (vj (((400 * (z1 + 20)) * (n + 20)) * (z2 + 1))), none, some (vj (((stp_t + stp_k) + stp_o) + stp_s)), none] [] _
    rw [← eG10]
    refine ab_aload_n d_PW_settle_101 rfl ?_
    refine ab_getf (fs := [vR f_ready, vR f_tape, vR f_reader, vR f_programs, vR f_subject, vR f_spans, vR f_threads, vR f_marks, vR f_oneMind, vR f_states, vR f_latest, vR f_matches, vR f_pieces, vR f_template, vR f_result, vR f_spare, vz cmp, vz (ovs + 1)]) f_PW_69 d_PW_settle_102 hw_.2.2 rfl ?_
    refine zz_lconst d_PW_settle_105 ?_
    change ab_W _ _ _ G10 106 [some (vR w_), some (vz z1), some (vz z2), some (vj (((400 * (z1 + 20)) * (n + 20)) * (z2 + 1))), none, some (vj (((stp_t + stp_k) + stp_o) + stp_s)), none] [vj 0, vR f_states] _
    refine ab_putf (fs := [vz mst_s, q0_s, vz vr_s, vz ro_s, vR cu_s, vz cn_s, vR eg_s, vR po_s, vR bg_s, vR bd_s, vz ct_s, vR sd_s, vz sc_s, vR se__s, vz sta_s, vR stk_s, vz arv_s, vj stp_s]) f_PW_261 (Or.inl rfl) d_PW_settle_106 hf_states.2.2 (Nat.le_of_ble_eq_true rfl) (fun _ => ⟨rfl, rfl⟩) (hf_states.2.1 (by decide)) ?_
    obtain ⟨G11, eG11⟩ : ∃ z : ab_G, z = List.set G10 f_states (ab_ob 8 [vz mst_s, q0_s, vz vr_s, vz ro_s, vR cu_s, vz cn_s, vR eg_s, vR po_s, vR bg_s, vR bd_s, vz ct_s, vR sd_s, vz sc_s, vR se__s, vz sta_s, vR stk_s, vz arv_s, vj 0]) := ⟨_, rfl⟩
    have hw_ := hw_.keep hf_states eG11 (by decide)
    have hf_subject := hf_subject.keep hf_states eG11 (by decide)
    have hby_ := hby_.keep hf_states eG11 (by decide)
    have hco := hco.keep hf_states eG11 (by decide)
    have hre := hre.keep hf_states eG11 (by decide)
    have hho := hho.keep hf_states eG11 (by decide)
    have hf_threads := hf_threads.keep hf_states eG11 (by decide)
    have hwk_t := hwk_t.keep hf_states eG11 (by decide)
    have hnw_t := hnw_t.keep hf_states eG11 (by omega)
    have htn_t := htn_t.keep hf_states eG11 (by omega)
    have hnsp_t := hnsp_t.keep hf_states eG11 (by omega)
    have htsp_t := htsp_t.keep hf_states eG11 (by omega)
    have hse_t := hse_t.keep hf_states eG11 (by decide)
    have hstk_t := hstk_t.keep hf_states eG11 (by decide)
    have hf_marks := hf_marks.keep hf_states eG11 (by decide)
    have hwk_k := hwk_k.keep hf_states eG11 (by decide)
    have hmk_k := hmk_k.keep hf_states eG11 (by decide)
    have hstk_k := hstk_k.keep hf_states eG11 (by decide)
    have hf_oneMind := hf_oneMind.keep hf_states eG11 (by decide)
    have hwk_o := hwk_o.keep hf_states eG11 (by decide)
    have honw_o := honw_o.keep hf_states eG11 (by decide)
    have hse__o := hse__o.keep hf_states eG11 (by decide)
    have hcle_o := hcle_o.keep hf_states eG11 (by decide)
    have hstk_o := hstk_o.keep hf_states eG11 (by decide)
    have hcu_s := hcu_s.keep hf_states eG11 (by decide)
    have heg_s := heg_s.keep hf_states eG11 (by decide)
    have hpo_s := hpo_s.keep hf_states eG11 (by decide)
    have hbg_s := hbg_s.keep hf_states eG11 (by decide)
    have hbd_s := hbd_s.keep hf_states eG11 (by decide)
    have hsd_s := hsd_s.keep hf_states eG11 (by decide)
    have hse__s := hse__s.keep hf_states eG11 (by decide)
    have hstk_s := hstk_s.keep hf_states eG11 (by decide)
    have hst := (fx.rf (o := o) (S := [60]) (G := G10)).wr hf_states eG11 (List.mem_singleton.mpr rfl)
    have pcsI_tkn_o := csI.fr hst pcsI_tkn_o (by decide) (by decide)
    have hlen := (z_len eG11).trans hlen
    have hsl := (z_sl hf_states eG11 rfl).trans hsl
    have hfr := hfr.wr hf_states eG11 (by decide)
    have hf_states := hf_states.kept eG11
    change ab_W _ _ _ (List.set G10 f_states (ab_ob 8 [vz mst_s, q0_s, vz vr_s, vz ro_s, vR cu_s, vz cn_s, vR eg_s, vR po_s, vR bg_s, vR bd_s, vz ct_s, vR sd_s, vz sc_s, vR se__s, vz sta_s, vR stk_s, vz arv_s, vj 0])) 109 [some (vR w_), some (vz z1), some (vz z2), some (vj (((400 * (z1 + 20)) * (n + 20)) * (z2 + 1))), none, some (vj (((stp_t + stp_k) + stp_o) + stp_s)), none] [] _
    rw [← eG11]
    have psuI_f_subject : suI o G11 f_subject n m f := ⟨by_, co, re, ho, C, Rs, H, mc, hf_subject, hby_, hco, hre, hho, (by omega), hsu⟩
    have pthI_f_threads : thI o G11 f_threads := ⟨wk_t, nw_t, tn_t, nsp_t, tsp_t, se_t, stk_t, nc_t, tc_t, sta_t, fo_t, hw_t, fy_t, 0, WK_t, NW_t, TN_t, NS_t, TS_t, SE_t, SK_t, l1_t, l2_t, l3_t, l4_t, sp0_t, q0_t, s0_t, hf_threads, hwk_t, hnw_t, htn_t, hnsp_t, htsp_t, hse_t, hstk_t, (by omega), jse_t, (by omega)⟩
    have pmkI_f_marks : mkI o G11 f_marks nm ns := ⟨wk_k, mk_k, stk_k, w_k, df_k, dp_k, fo_k, fy_k, hw_k, 0, WK_k, M_k, SK_k, sp0_k, q0_k, s0_k, hf_marks, hwk_k, hmk_k, hstk_k, (by omega), hst_k, (by omega)⟩
    have pomI_f_oneMind : omI o G11 f_oneMind on nt := ⟨wk_o, onw_o, tkn_o, se__o, cle_o, stk_o, dp_o, fo_o, chn_o, hw_o, fy_o, 0, WK_o, ON_o, SK_o, sp0_o, q0_o, s0_o, SE_o, CL_o, ct_o, P_o, nk_o, hf_oneMind, hwk_o, honw_o, hse__o, hcle_o, hstk_o, pcsI_tkn_o, hon_o, (by omega)⟩
    have pstI_f_states : stI o G11 f_states cv cmp := ⟨cu_s, eg_s, po_s, bg_s, bd_s, sd_s, se__s, stk_s, mst_s, q0_s, vr_s, ro_s, cn_s, ct_s, sc_s, sta_s, arv_s, 0, CU_s, EG_s, PO_s, BG_s, BD_s, SD_s, SE_s, SK_s, hf_states, hcu_s, heg_s, hpo_s, hbg_s, hbd_s, hsd_s, hse__s, hstk_s, jcu_s, (by omega), (by omega), (by omega), jbg_s, jpo_s, jbd_s, jeg_s, (by omega)⟩
    refine ab_vret rfl d_PW_settle_109 ?_
    rw [hQ]; exact ⟨_, rfl, hfr, hlen, hsl, hw_, pthI_f_threads, pmkI_f_marks, pomI_f_oneMind, pstI_f_states, psuI_f_subject⟩
