set_option maxRecDepth 100000 in
set_option maxHeartbeats 4000000 in
theorem z_PW_run {X : ab_X} {d : Nat} {o : Nat → Nat} {G : ab_G} {w_ : Nat} {f_ready : Nat} {f_tape : Nat} {f_reader : Nat} {f_programs : Nat} {f_subject : Nat} {f_spans : Nat} {f_threads : Nat} {f_marks : Nat} {f_oneMind : Nat} {f_states : Nat} {f_latest : Nat} {f_matches : Nat} {f_pieces : Nat} {f_template : Nat} {f_result : Nat} {f_spare : Nat} {cmp : Int} {ovs : Int} {sb : Int} {q : Nat} {lq : Nat} {nr : Nat} {cv : Int → Int} {on : Nat} {mi : Int} {nm : Nat} {ns : Nat} {nt : Nat} {n : Int} {m : Nat} {SP : Int → Int} {f : Int → Int} {hw : Int} {mch : Int} {p : Int} (hw_ : cc o G w_ 18 (ab_ob 0 [vR f_ready, vR f_tape, vR f_reader, vR f_programs, vR f_subject, vR f_spans, vR f_threads, vR f_marks, vR f_oneMind, vR f_states, vR f_latest, vR f_matches, vR f_pieces, vR f_template, vR f_result, vR f_spare, vz cmp, vz ovs])) (hf_spans : cc o G f_spans 31 (za 20 SP)) (h17 : cc o G 17 17 (za 12 zFC)) (pthI_f_threads : thI o G f_threads) (pmkI_f_marks : mkI o G f_marks nm ns) (pomI_f_oneMind : omI o G f_oneMind on nt) (pstI_f_states : stI o G f_states cv cmp sb) (psuI_f_subject : suI o G f_subject n m f) (ppgB_q : pgB o G q lq nr cv cmp on mi) (n18 : ab_n0 = 18) (chw : 0 ≤ hw ∧ hw ≤ 2 ∧ 0 ≤ mch ∧ mch ≤ 4 ∧ 0 ≤ p ∧ p ≤ n) (jsp : rgs SP 20 (-1) 2000) (rc : 64 * G.length + 4600000 ≤ 64 * (ab_n0 + room_1.cells) + (64 * nm + 64 * stC ns + nt + onPQ on)) (rs : ab_slots G + 2360000 ≤ room_1.slots + (zT nm 52026 + stT ns + 2 * nt + onSQ on)) (csb9 : 0 ≤ sb ∧ sb ≤ 1000000000) (hd : 15 ≤ d) : ab_F X d y_PW_run (.code y_PW_run b_PW_run 5 (some (.int))) [vR w_, vR q, vz hw, vz mch, vz p] G (fun oc G2 => ∃ o2 : Nat → Nat, ∃ nm2 : Nat, ∃ ns2 : Nat, ∃ on2 : Nat, ∃ nt2 : Nat, ∃ mi2 : Int, ∃ SP2 : Int → Int, ∃ r : Int, ∃ sb2 : Int, oc = .returned (some (vz r)) ∧ fx o o2 [31, 32, 33, 35, 36, 37, 38, 39, 40, 44, 45, 46, 47, 50, 51, 52, 53, 54, 55, 56, 57, 60, 61, 62, 63, 64, 65, 66, 67, 68, lq] G G2 ∧ cc o2 G2 f_spans 31 (za 20 SP2) ∧ thI o2 G2 f_threads ∧ mkI o2 G2 f_marks nm2 ns2 ∧ omI o2 G2 f_oneMind on2 nt2 ∧ stI o2 G2 f_states cv cmp sb2 ∧ suI o2 G2 f_subject n m f ∧ pgB o2 G2 q lq nr cv cmp on2 mi2 ∧ (sb ≤ sb2 ∧ sb2 ≤ sb + 2003) ∧ (-1 ≤ r ∧ r ≤ n) ∧ (rgs SP2 20 (-1) 2000) ∧ (64 * G2.length + (64 * nm + 64 * stC ns + nt + onPQ on) ≤ 64 * G.length + (64 * nm2 + 64 * stC ns2 + nt2 + onPQ on2)) ∧ (ab_slots G2 + (zT nm 52026 + stT ns + 2 * nt + onSQ on) ≤ ab_slots G + (zT nm2 52026 + stT ns2 + 2 * nt2 + onSQ on2)) ∧ (onL on on2)) := by
  refine ab_F_of (by decide +kernel) (Nat.le_of_ble_eq_true rfl) ?_
  obtain ⟨Q, hQ⟩ : ∃ z : Outcome → ab_G → Prop, z = (fun oc G2 => ∃ o2 : Nat → Nat, ∃ nm2 : Nat, ∃ ns2 : Nat, ∃ on2 : Nat, ∃ nt2 : Nat, ∃ mi2 : Int, ∃ SP2 : Int → Int, ∃ r : Int, ∃ sb2 : Int, oc = .returned (some (vz r)) ∧ fx o o2 [31, 32, 33, 35, 36, 37, 38, 39, 40, 44, 45, 46, 47, 50, 51, 52, 53, 54, 55, 56, 57, 60, 61, 62, 63, 64, 65, 66, 67, 68, lq] G G2 ∧ cc o2 G2 f_spans 31 (za 20 SP2) ∧ thI o2 G2 f_threads ∧ mkI o2 G2 f_marks nm2 ns2 ∧ omI o2 G2 f_oneMind on2 nt2 ∧ stI o2 G2 f_states cv cmp sb2 ∧ suI o2 G2 f_subject n m f ∧ pgB o2 G2 q lq nr cv cmp on2 mi2 ∧ (sb ≤ sb2 ∧ sb2 ≤ sb + 2003) ∧ (-1 ≤ r ∧ r ≤ n) ∧ (rgs SP2 20 (-1) 2000) ∧ (64 * G2.length + (64 * nm + 64 * stC ns + nt + onPQ on) ≤ 64 * G.length + (64 * nm2 + 64 * stC ns2 + nt2 + onPQ on2)) ∧ (ab_slots G2 + (zT nm 52026 + stT ns + 2 * nt + onSQ on) ≤ ab_slots G + (zT nm2 52026 + stT ns2 + 2 * nt2 + onSQ on2)) ∧ (onL on on2)) := ⟨_, rfl⟩
  rw [← hQ]
  change ab_W X (ab_pl y_PW_run b_PW_run 5 (some (.int))) d G 0 [some (vR w_), some (vR q), some (vz hw), some (vz mch), some (vz p)] [] Q
  have hfr : fx o o [31, 32, 33, 35, 36, 37, 38, 39, 40, 44, 45, 46, 47, 50, 51, 52, 53, 54, 55, 56, 57, 60, 61, 62, 63, 64, 65, 66, 67, 68, lq] G G := fx.rf
  obtain ⟨ki, ne, ot, cnt, fi, la, ra, ru, gr, wi, sz, fl, ve, na, nl, K, N, O, RR, NA, NL, hq, hki, hne, hot, hra, hna, hnl, cq, hpu, hp, hr, hch, cru, ck9, cfi, cgr, cfl, hpo, hmi, hvc, cve, jnl, hiv, hmn, jna, hla, hpv, cv1⟩ := ppgB_q
  have hmn0_ := hmn
  obtain ⟨v9_, hmv_, hpm_⟩ := hmn0_
  obtain ⟨by_, co, re, ho, C, Rs, H, mc, hf_subject, hby_, hco, hre, hho, csu, hsu⟩ := psuI_f_subject
  have hq1 := stT_le ns
  have hq2 := stC_le ns
  have hq3 := onPQ_le on
  have hq4 := onSQ_le on
  have hnt_ := pomI_f_oneMind.nt
  have hnm_ := pmkI_f_marks.b
  have hzt_ : zT nm 52026 ≤ 156078 := zT_le (c := 52026) (by omega) rfl
  refine ab_iload_n d_PW_run_0 rfl ?_
  refine zz_iconst d_PW_run_1 ?_
  refine zz_icmp_ne (tgt := 25) d_PW_run_2 (by decide) (by omega) (by decide) (fun c5 => ?_) (fun c5 => ?_)
  · refine ab_iload_n d_PW_run_25 rfl ?_
    refine zz_iconst d_PW_run_26 ?_
    refine zz_icmp_ne (tgt := 65) d_PW_run_27 (by decide) (by omega) (by decide) (fun c6 => ?_) (fun c6 => ?_)
    · refine ab_iload_n d_PW_run_65 rfl ?_
      refine zz_iconst d_PW_run_66 ?_
      refine zz_icmp_ne (tgt := 90) d_PW_run_67 (by decide) (by omega) (by decide) (fun c7 => ?_) (fun c7 => ?_)
      · refine ab_aload_n d_PW_run_90 rfl ?_
        refine ab_getf (fs := [vR f_ready, vR f_tape, vR f_reader, vR f_programs, vR f_subject, vR f_spans, vR f_threads, vR f_marks, vR f_oneMind, vR f_states, vR f_latest, vR f_matches, vR f_pieces, vR f_template, vR f_result, vR f_spare, vz cmp, vz ovs]) f_PW_55 d_PW_run_91 hw_.2.2 rfl ?_
        refine ab_aload_n d_PW_run_94 rfl ?_
        refine ab_aload_n d_PW_run_95 rfl ?_
        refine ab_getf (fs := [vR f_ready, vR f_tape, vR f_reader, vR f_programs, vR f_subject, vR f_spans, vR f_threads, vR f_marks, vR f_oneMind, vR f_states, vR f_latest, vR f_matches, vR f_pieces, vR f_template, vR f_result, vR f_spare, vz cmp, vz ovs]) f_PW_38 d_PW_run_96 hw_.2.2 rfl ?_
        refine ab_iload_n d_PW_run_99 rfl ?_
        refine ab_iload d_PW_run_100 rfl ?_
        refine ab_aload_n d_PW_run_102 rfl ?_
        refine ab_getf (fs := [vR f_ready, vR f_tape, vR f_reader, vR f_programs, vR f_subject, vR f_spans, vR f_threads, vR f_marks, vR f_oneMind, vR f_states, vR f_latest, vR f_matches, vR f_pieces, vR f_template, vR f_result, vR f_spare, vz cmp, vz ovs]) f_PW_42 d_PW_run_103 hw_.2.2 rfl ?_
        obtain ⟨wk_k, mk_k, stk_k, w_k, df_k, dp_k, fo_k, fy_k, hw_k, stp_k, WK_k, M_k, SK_k, sp0_k, q0_k, s0_k, hf_marks, hwk_k, hmk_k, hstk_k, cn_k, hst_k, cfo_k⟩ := pmkI_f_marks
        refine ab_callV (d' := d - 1) (as := [vR q, vR f_subject, vz hw, vz p, vR f_spans]) (st := []) (r := _) (z_MK_begin (o := o) (q := q) (lq := lq) (ki := ki) (ne := ne) (ot := ot) (cnt := cnt) (fi := fi) (la := la) (ra := ra) (ru := ru) (gr := gr) (wi := wi) (sz := sz) (fl := fl) (ve := ve) (mi := mi) (na := na) (nl := nl) (s := f_subject) (by_ := by_) (co := co) (re := re) (ho := ho) (n := n) (a := f_marks) (sp := f_spans) (wk := wk_k) (mk := mk_k) (stk := stk_k) (dp := dp_k) (fo := fo_k) (hw := hw) (stp := stp_k) (M := M_k) (nm := nm) (q0 := q0_k) (s0 := s0_k) (sp0 := sp0_k) (from_ := p) (hw0 := hw_k) (fy0 := fy_k) (w0 := w_k) (df0 := df_k) hf_marks hmk_k hq hf_subject (by omega) (by omega) (by omega) (by omega) (by omega) (by omega) (by omega)) (fun oc G2 h => by rcases h with ⟨_, _, _, _, _, _, h, _⟩ <;> exact ⟨_, h⟩) (by omega) m_MK_begin ml_PW_189 im_MK_begin se_MK_begin c_MK hf_marks.2.2 (Nat.le_of_ble_eq_true rfl) d_PW_run_106 rfl ?_
        intro v G8 hq
        rcases hq with ⟨o9, w210, fy211, mk212, nm213, M214, hv, hfk, hNf_marks, hNmk212, hq15, hq16, hq17, hq18, hq19, hq20, hq21⟩
        cases hv
        have hw_ := hfk.get hw_ (by decide)
        have hf_spans := hfk.get hf_spans (by decide)
        have h17 := hfk.get h17 (by decide)
        have hq := hfk.get hq (by simp only [List.mem_cons, List.not_mem_nil, or_false]; omega)
        have hki := hfk.get hki (by simp only [List.mem_cons, List.not_mem_nil, or_false]; omega)
        have hne := hfk.get hne (by simp only [List.mem_cons, List.not_mem_nil, or_false]; omega)
        have hot := hfk.get hot (by simp only [List.mem_cons, List.not_mem_nil, or_false]; omega)
        have hra := hfk.get hra (by simp only [List.mem_cons, List.not_mem_nil, or_false]; omega)
        have hna := hfk.get hna (by simp only [List.mem_cons, List.not_mem_nil, or_false]; omega)
        have hnl := hfk.get hnl (by simp only [List.mem_cons, List.not_mem_nil, or_false]; omega)
        have hf_subject := hfk.get hf_subject (by decide)
        have hby_ := hfk.get hby_ (by decide)
        have hco := hfk.get hco (by decide)
        have hre := hfk.get hre (by decide)
        have hho := hfk.get hho (by decide)
        have hwk_k := hfk.get hwk_k (by decide)
        have hstk_k := hfk.get hstk_k (by decide)
        have pthI_f_threads := thI.fr hfk pthI_f_threads (by decide) (by decide) (by decide) (by decide) (by decide) (by decide) (by decide) (by decide)
        have pomI_f_oneMind := omI.fr hfk pomI_f_oneMind (by decide) (by decide) (by decide) (by decide) (by decide) (by decide) (by decide) (by decide)
        have pstI_f_states := stI.fr hfk pstI_f_states (by decide) (by decide) (by decide) (by decide) (by decide) (by decide) (by decide) (by decide) (by decide)
        have hfr := hfr.tr hfk (by simp)
        have hq22 := hfk.1
        have hf_marks := hNf_marks
        have hmk212 := hNmk212
        change ab_W _ _ _ G8 109 [some (vR w_), some (vR q), some (vz hw), some (vz mch), some (vz p)] [] _
        have hzt2_ : zT nm213 52026 ≤ 156078 := zT_le (c := 52026) (by omega) rfl
        refine ab_aload_n d_PW_run_109 rfl ?_
        refine ab_getf (fs := [vR f_ready, vR f_tape, vR f_reader, vR f_programs, vR f_subject, vR f_spans, vR f_threads, vR f_marks, vR f_oneMind, vR f_states, vR f_latest, vR f_matches, vR f_pieces, vR f_template, vR f_result, vR f_spare, vz cmp, vz ovs]) f_PW_55 d_PW_run_110 hw_.2.2 rfl ?_
        refine ab_iload d_PW_run_113 rfl ?_
        refine ab_callV (d' := d - 1) (as := [vz p]) (st := []) (r := _) (z_MK_find (o := o9) (q := q) (lq := lq) (ki := ki) (ne := ne) (ot := ot) (cnt := cnt) (fi := fi) (la := la) (ra := ra) (ru := ru) (gr := gr) (wi := wi) (sz := sz) (fl := fl) (ve := ve) (mi := mi) (na := na) (nl := nl) (K := K) (N := N) (O := O) (RR := RR) (nr := nr) (s := f_subject) (by_ := by_) (co := co) (re := re) (ho := ho) (n := n) (C := C) (Rs := Rs) (H := H) (mc := mc) (a := f_marks) (sp := f_spans) (wk := wk_k) (mk := mk212) (stk := stk_k) (w := w210) (df := p) (dp := dp_k) (fo := fo_k) (fy := fy211) (hw := hw) (stp := stp_k) (SP := SP) (WK := WK_k) (M := M214) (SK := SK_k) (nm := nm213) (ns := ns) (p := p) (v9 := v9_) hf_marks hf_spans hwk_k hmk212 hstk_k hq hki hne hot hra hf_subject hco hre hho (by omega) hp hr (by omega) hsu (by omega) (by omega) (by omega) (by omega) (by omega) (by omega) hst_k (by omega) (by omega) jsp (by omega) (by omega) hpm_ (ddC_0 (by omega)) (by omega)) (fun oc G2 h => by rcases h with ⟨_, _, _, _, _, _, _, _, _, _, _, h, _⟩ | ⟨_, _, _, _, _, _, _, _, _, _, _, _, h, _⟩ <;> exact ⟨_, h⟩) (by omega) m_MK_find ml_PW_251 im_MK_find se_MK_find c_MK hf_marks.2.2 (Nat.le_of_ble_eq_true rfl) d_PW_run_115 rfl ?_
        intro v G23 hq
        rcases hq with ⟨o24, df225, dp226, fo227, st228, sk229, ns230, WK231, M232, SK233, SP234, hv, hfk, hNf_marks, hNf_spans, hNwk_k, hNmk212, hNsk229, hq35, hq36, hq37, hq38, hq39, hq40, hq41, hq42⟩ | ⟨o43, df244, dp245, fo246, st247, sk248, ns249, WK250, M251, SK252, SP253, r54, hv, hfk, hNf_marks, hNf_spans, hNwk_k, hNmk212, hNsk248, hq55, hq56, hq57, hq58, hq59, hq60, hq61, hq62, hq63, hq64, hq65, hq66, hq67⟩
        · cases hv
          have hw_ := hfk.get hw_ (by decide)
          have h17 := hfk.get h17 (by decide)
          have hq := hfk.get hq (by simp only [List.mem_cons, List.not_mem_nil, or_false]; omega)
          have hki := hfk.get hki (by simp only [List.mem_cons, List.not_mem_nil, or_false]; omega)
          have hne := hfk.get hne (by simp only [List.mem_cons, List.not_mem_nil, or_false]; omega)
          have hot := hfk.get hot (by simp only [List.mem_cons, List.not_mem_nil, or_false]; omega)
          have hra := hfk.get hra (by simp only [List.mem_cons, List.not_mem_nil, or_false]; omega)
          have hna := hfk.get hna (by simp only [List.mem_cons, List.not_mem_nil, or_false]; omega)
          have hnl := hfk.get hnl (by simp only [List.mem_cons, List.not_mem_nil, or_false]; omega)
          have hf_subject := hfk.get hf_subject (by decide)
          have hby_ := hfk.get hby_ (by decide)
          have hco := hfk.get hco (by decide)
          have hre := hfk.get hre (by decide)
          have hho := hfk.get hho (by decide)
          have pthI_f_threads := thI.fr hfk pthI_f_threads (by decide) (by decide) (by decide) (by decide) (by decide) (by decide) (by decide) (by decide)
          have pomI_f_oneMind := omI.fr hfk pomI_f_oneMind (by decide) (by decide) (by decide) (by decide) (by decide) (by decide) (by decide) (by decide)
          have pstI_f_states := stI.fr hfk pstI_f_states (by decide) (by decide) (by decide) (by decide) (by decide) (by decide) (by decide) (by decide) (by decide)
          have hfr := hfr.tr hfk (by simp)
          have hq68 := hfk.1
          have hf_marks := hNf_marks
          have hf_spans := hNf_spans
          have hwk_k := hNwk_k
          have hmk212 := hNmk212
          have hsk229 := hNsk229
          change ab_W _ _ _ G23 118 [some (vR w_), some (vR q), some (vz hw), some (vz mch), some (vz p)] [vz (-1)] _
          have pmkI_f_marks : mkI o24 G23 f_marks nm213 ns230 := ⟨wk_k, mk212, sk229, w210, df225, dp226, fo227, fy211, hw, st228, WK231, M232, SK233, vR f_spans, vR q, vR f_subject, hf_marks, hwk_k, hmk212, hsk229, (by omega), hq36, (by omega)⟩
          have hmq_ : onq mi on := hmi
          have ppgB_q : pgB o24 G23 q lq nr cv cmp on mi := ⟨ki, ne, ot, cnt, fi, la, ra, ru, gr, wi, sz, fl, ve, na, nl, K, N, O, RR, NA, NL, hq, hki, hne, hot, hra, hna, hnl, (by omega), hpu, hp, hr, hch, (by omega), (by omega), (by omega), (by omega), (by omega), hpo, hmq_, (by omega), (by omega), jnl, hiv, hmn, jna, hla, hpv, (by omega)⟩
          have psuI_f_subject : suI o24 G23 f_subject n m f := ⟨by_, co, re, ho, C, Rs, H, mc, hf_subject, hby_, hco, hre, hho, (by omega), hsu⟩
          refine zz_iret rfl d_PW_run_118 ?_
          rw [hQ]; exact ⟨_, _, _, _, _, _, _, _, _, rfl, hfr, hf_spans, pthI_f_threads, pmkI_f_marks, pomI_f_oneMind, pstI_f_states, psuI_f_subject, ppgB_q, (by omega), (by omega), (by exact hq38), (by omega), (by omega), (by first | exact Or.inl rfl | exact Or.inl rfl)⟩
        · cases hv
          have hw_ := hfk.get hw_ (by decide)
          have h17 := hfk.get h17 (by decide)
          have hq := hfk.get hq (by simp only [List.mem_cons, List.not_mem_nil, or_false]; omega)
          have hki := hfk.get hki (by simp only [List.mem_cons, List.not_mem_nil, or_false]; omega)
          have hne := hfk.get hne (by simp only [List.mem_cons, List.not_mem_nil, or_false]; omega)
          have hot := hfk.get hot (by simp only [List.mem_cons, List.not_mem_nil, or_false]; omega)
          have hra := hfk.get hra (by simp only [List.mem_cons, List.not_mem_nil, or_false]; omega)
          have hna := hfk.get hna (by simp only [List.mem_cons, List.not_mem_nil, or_false]; omega)
          have hnl := hfk.get hnl (by simp only [List.mem_cons, List.not_mem_nil, or_false]; omega)
          have hf_subject := hfk.get hf_subject (by decide)
          have hby_ := hfk.get hby_ (by decide)
          have hco := hfk.get hco (by decide)
          have hre := hfk.get hre (by decide)
          have hho := hfk.get hho (by decide)
          have pthI_f_threads := thI.fr hfk pthI_f_threads (by decide) (by decide) (by decide) (by decide) (by decide) (by decide) (by decide) (by decide)
          have pomI_f_oneMind := omI.fr hfk pomI_f_oneMind (by decide) (by decide) (by decide) (by decide) (by decide) (by decide) (by decide) (by decide)
          have pstI_f_states := stI.fr hfk pstI_f_states (by decide) (by decide) (by decide) (by decide) (by decide) (by decide) (by decide) (by decide) (by decide)
          have hfr := hfr.tr hfk (by simp)
          have hq69 := hfk.1
          have hf_marks := hNf_marks
          have hf_spans := hNf_spans
          have hwk_k := hNwk_k
          have hmk212 := hNmk212
          have hsk248 := hNsk248
          change ab_W _ _ _ G23 118 [some (vR w_), some (vR q), some (vz hw), some (vz mch), some (vz p)] [vz r54] _
          have pmkI_f_marks : mkI o43 G23 f_marks nm213 ns249 := ⟨wk_k, mk212, sk248, w210, df244, dp245, fo246, fy211, hw, st247, WK250, M251, SK252, vR f_spans, vR q, vR f_subject, hf_marks, hwk_k, hmk212, hsk248, (by omega), hq56, (by omega)⟩
          have hmq_ : onq mi on := hmi
          have ppgB_q : pgB o43 G23 q lq nr cv cmp on mi := ⟨ki, ne, ot, cnt, fi, la, ra, ru, gr, wi, sz, fl, ve, na, nl, K, N, O, RR, NA, NL, hq, hki, hne, hot, hra, hna, hnl, (by omega), hpu, hp, hr, hch, (by omega), (by omega), (by omega), (by omega), (by omega), hpo, hmq_, (by omega), (by omega), jnl, hiv, hmn, jna, hla, hpv, (by omega)⟩
          have psuI_f_subject : suI o43 G23 f_subject n m f := ⟨by_, co, re, ho, C, Rs, H, mc, hf_subject, hby_, hco, hre, hho, (by omega), hsu⟩
          refine zz_iret rfl d_PW_run_118 ?_
          rw [hQ]; exact ⟨_, _, _, _, _, _, _, _, _, rfl, hfr, hf_spans, pthI_f_threads, pmkI_f_marks, pomI_f_oneMind, pstI_f_states, psuI_f_subject, ppgB_q, (by omega), (by omega), (by exact hq58), (by omega), (by omega), (by first | exact Or.inl rfl | exact Or.inl rfl)⟩
      · refine ab_aload_n d_PW_run_70 rfl ?_
        refine ab_getf (fs := [vR f_ready, vR f_tape, vR f_reader, vR f_programs, vR f_subject, vR f_spans, vR f_threads, vR f_marks, vR f_oneMind, vR f_states, vR f_latest, vR f_matches, vR f_pieces, vR f_template, vR f_result, vR f_spare, vz cmp, vz ovs]) f_PW_69 d_PW_run_71 hw_.2.2 rfl ?_
        refine ab_aload_n d_PW_run_74 rfl ?_
        refine ab_aload_n d_PW_run_75 rfl ?_
        refine ab_getf (fs := [vR f_ready, vR f_tape, vR f_reader, vR f_programs, vR f_subject, vR f_spans, vR f_threads, vR f_marks, vR f_oneMind, vR f_states, vR f_latest, vR f_matches, vR f_pieces, vR f_template, vR f_result, vR f_spare, vz cmp, vz ovs]) f_PW_38 d_PW_run_76 hw_.2.2 rfl ?_
        refine ab_iload_n d_PW_run_79 rfl ?_
        refine ab_iload d_PW_run_80 rfl ?_
        obtain ⟨cu_s, eg_s, po_s, bg_s, bd_s, sd_s, se__s, stk_s, mst_s, q0_s, vr_s, ro_s, cn_s, ct_s, sc_s, sta_s, arv_s, stp_s, CU_s, EG_s, PO_s, BG_s, BD_s, SD_s, SE_s, SK_s, hf_states, hcu_s, heg_s, hpo_s, hbg_s, hbd_s, hsd_s, hse__s, hstk_s, jcu_s, ccn_s, cms_s, cvr_s, jbg_s, jpo_s, jbd_s, jeg_s, cro_s, jse_s, csb_s, jsq_s⟩ := pstI_f_states
        refine ab_callV (d' := d - 1) (as := [vR q, vR f_subject, vz hw, vz p]) (st := []) (r := _) (z_ST_tell (o := o) (a := f_states) (cu := cu_s) (eg := eg_s) (po := po_s) (bg := bg_s) (bd := bd_s) (sd := sd_s) (se_ := se__s) (stk := stk_s) (mst := mst_s) (q0 := q0_s) (vr := vr_s) (ro := ro_s) (cn := cn_s) (ct := ct_s) (sc := sc_s) (sta := sta_s) (arv := arv_s) (stp := stp_s) (CU := CU_s) (EG := EG_s) (PO := PO_s) (BG := BG_s) (BD := BD_s) (SD := SD_s) (SE := SE_s) (SK := SK_s) (q := q) (lq := lq) (ki := ki) (ne := ne) (ot := ot) (cnt := cnt) (fi := fi) (la := la) (ra := ra) (ru := ru) (gr := gr) (wi := wi) (sz := sz) (fl := fl) (ve := ve) (mi := mi) (na := na) (nl := nl) (K := K) (N := N) (O := O) (RR := RR) (nr := nr) (s := f_subject) (by_ := by_) (co := co) (re := re) (ho := ho) (n := n) (f := f) (C := C) (Rs := Rs) (m := m) (mc := mc) (KT := (veK cv ve)) (NT := (veN cv ve)) (OT := (veO cv ve)) (RT := (veR cv ve)) (p := p) (hw := hw) (vc := (cv vr_s)) (v9 := v9_) hf_states hcu_s heg_s hpo_s hbg_s hbd_s hsd_s hse__s hstk_s h17 hq hki hne hot hra hf_subject hby_ hco hre (by omega) hp hr (by omega) hch jcu_s (by omega) (by omega) (by omega) (fun h => by rw [h]; exact hvc) jbg_s jpo_s jeg_s jbd_s (by omega) (by omega) (by omega) hsu hsu.1 (by omega) (by omega) (by omega) (by omega) hpv.t hpu (jsq_s.is hpv cv1) (by omega) (by omega) jse_s hla hpm_ (by omega)) (fun oc G2 h => by rcases h with ⟨_, _, _, _, _, _, _, _, _, _, _, _, _, _, _, _, _, h, _⟩ <;> exact ⟨_, h⟩) (by omega) m_ST_tell ml_PW_224 im_ST_tell se_ST_tell c_ST hf_states.2.2 (Nat.le_of_ble_eq_true rfl) d_PW_run_82 rfl ?_
        intro v G70 hq
        rcases hq with ⟨v71, vr272, cn273, ro274, CU275, ct276, sc277, sta278, st279, ar280, EG281, PO282, BG283, BD284, SD285, SE286, SK287, hv, hfk, hlk, hsk, hNf_states, hNcu_s, hNeg_s, hNpo_s, hNbg_s, hNbd_s, hNsd_s, hNse__s, hNstk_s, hq88, hq89, hq90, hq91, hq92, hq93, hq94, hq95, hq96, hq97, hq98, hq99⟩
        cases hv
        have hw_ := hfk.get hw_ (by decide)
        have hf_spans := hfk.get hf_spans (by decide)
        have h17 := hfk.get h17 (by decide)
        have hq := hfk.get hq (by simp only [List.mem_cons, List.not_mem_nil, or_false]; omega)
        have hki := hfk.get hki (by simp only [List.mem_cons, List.not_mem_nil, or_false]; omega)
        have hne := hfk.get hne (by simp only [List.mem_cons, List.not_mem_nil, or_false]; omega)
        have hot := hfk.get hot (by simp only [List.mem_cons, List.not_mem_nil, or_false]; omega)
        have hra := hfk.get hra (by simp only [List.mem_cons, List.not_mem_nil, or_false]; omega)
        have hna := hfk.get hna (by simp only [List.mem_cons, List.not_mem_nil, or_false]; omega)
        have hnl := hfk.get hnl (by simp only [List.mem_cons, List.not_mem_nil, or_false]; omega)
        have hf_subject := hfk.get hf_subject (by decide)
        have hby_ := hfk.get hby_ (by decide)
        have hco := hfk.get hco (by decide)
        have hre := hfk.get hre (by decide)
        have hho := hfk.get hho (by decide)
        have pthI_f_threads := thI.fr hfk pthI_f_threads (by decide) (by decide) (by decide) (by decide) (by decide) (by decide) (by decide) (by decide)
        have pmkI_f_marks := mkI.fr hfk pmkI_f_marks (by decide) (by decide) (by decide) (by decide)
        have pomI_f_oneMind := omI.fr hfk pomI_f_oneMind (by decide) (by decide) (by decide) (by decide) (by decide) (by decide) (by decide) (by decide)
        have hfr := hfr.tr hfk (by simp)
        have hq100 := hlk
        have hq101 := hsk
        have hf_states := hNf_states
        have hcu_s := hNcu_s
        have heg_s := hNeg_s
        have hpo_s := hNpo_s
        have hbg_s := hNbg_s
        have hbd_s := hNbd_s
        have hsd_s := hNsd_s
        have hse__s := hNse__s
        have hstk_s := hNstk_s
        change ab_W _ _ _ G70 85 [some (vR w_), some (vR q), some (vz hw), some (vz mch), some (vz p)] [vz v71] _
        have pstI_f_states : stI o G70 f_states cv cmp (sb + 2003) := ⟨cu_s, eg_s, po_s, bg_s, bd_s, sd_s, se__s, stk_s, mst_s, vR q, vr272, ro274, cn273, ct276, sc277, sta278, ar280, st279, CU275, EG281, PO282, BG283, BD284, SD285, SE286, SK287, hf_states, hcu_s, heg_s, hpo_s, hbg_s, hbd_s, hsd_s, hse__s, hstk_s, hq95, (by omega), (by omega), (by omega), hq89, (by rw [show vr272 = ve by omega, hvc]; exact hq90), hq91, hq92, (by omega), hq93, (by omega), (stQ_mk hq98 hpv (by omega) (by omega) (by omega))⟩
        refine zz_if_ne (tgt := 90) d_PW_run_85 (by decide) (by omega) (fun c102 => ?_) (fun c102 => ?_)
        · refine ab_aload_n d_PW_run_90 rfl ?_
          refine ab_getf (fs := [vR f_ready, vR f_tape, vR f_reader, vR f_programs, vR f_subject, vR f_spans, vR f_threads, vR f_marks, vR f_oneMind, vR f_states, vR f_latest, vR f_matches, vR f_pieces, vR f_template, vR f_result, vR f_spare, vz cmp, vz ovs]) f_PW_55 d_PW_run_91 hw_.2.2 rfl ?_
          refine ab_aload_n d_PW_run_94 rfl ?_
          refine ab_aload_n d_PW_run_95 rfl ?_
          refine ab_getf (fs := [vR f_ready, vR f_tape, vR f_reader, vR f_programs, vR f_subject, vR f_spans, vR f_threads, vR f_marks, vR f_oneMind, vR f_states, vR f_latest, vR f_matches, vR f_pieces, vR f_template, vR f_result, vR f_spare, vz cmp, vz ovs]) f_PW_38 d_PW_run_96 hw_.2.2 rfl ?_
          refine ab_iload_n d_PW_run_99 rfl ?_
          refine ab_iload d_PW_run_100 rfl ?_
          refine ab_aload_n d_PW_run_102 rfl ?_
          refine ab_getf (fs := [vR f_ready, vR f_tape, vR f_reader, vR f_programs, vR f_subject, vR f_spans, vR f_threads, vR f_marks, vR f_oneMind, vR f_states, vR f_latest, vR f_matches, vR f_pieces, vR f_template, vR f_result, vR f_spare, vz cmp, vz ovs]) f_PW_42 d_PW_run_103 hw_.2.2 rfl ?_
          obtain ⟨wk_k, mk_k, stk_k, w_k, df_k, dp_k, fo_k, fy_k, hw_k, stp_k, WK_k, M_k, SK_k, sp0_k, q0_k, s0_k, hf_marks, hwk_k, hmk_k, hstk_k, cn_k, hst_k, cfo_k⟩ := pmkI_f_marks
          refine ab_callV (d' := d - 1) (as := [vR q, vR f_subject, vz hw, vz p, vR f_spans]) (st := []) (r := _) (z_MK_begin (o := o) (q := q) (lq := lq) (ki := ki) (ne := ne) (ot := ot) (cnt := cnt) (fi := fi) (la := la) (ra := ra) (ru := ru) (gr := gr) (wi := wi) (sz := sz) (fl := fl) (ve := ve) (mi := mi) (na := na) (nl := nl) (s := f_subject) (by_ := by_) (co := co) (re := re) (ho := ho) (n := n) (a := f_marks) (sp := f_spans) (wk := wk_k) (mk := mk_k) (stk := stk_k) (dp := dp_k) (fo := fo_k) (hw := hw) (stp := stp_k) (M := M_k) (nm := nm) (q0 := q0_k) (s0 := s0_k) (sp0 := sp0_k) (from_ := p) (hw0 := hw_k) (fy0 := fy_k) (w0 := w_k) (df0 := df_k) hf_marks hmk_k hq hf_subject (by omega) (by omega) (by omega) (by omega) (by omega) (by omega) (by omega)) (fun oc G2 h => by rcases h with ⟨_, _, _, _, _, _, h, _⟩ <;> exact ⟨_, h⟩) (by omega) m_MK_begin ml_PW_189 im_MK_begin se_MK_begin c_MK hf_marks.2.2 (Nat.le_of_ble_eq_true rfl) d_PW_run_106 rfl ?_
          intro v G103 hq
          rcases hq with ⟨o104, w2105, fy2106, mk2107, nm2108, M2109, hv, hfk, hNf_marks, hNmk2107, hq110, hq111, hq112, hq113, hq114, hq115, hq116⟩
          cases hv
          have hw_ := hfk.get hw_ (by decide)
          have hf_spans := hfk.get hf_spans (by decide)
          have h17 := hfk.get h17 (by decide)
          have hq := hfk.get hq (by simp only [List.mem_cons, List.not_mem_nil, or_false]; omega)
          have hki := hfk.get hki (by simp only [List.mem_cons, List.not_mem_nil, or_false]; omega)
          have hne := hfk.get hne (by simp only [List.mem_cons, List.not_mem_nil, or_false]; omega)
          have hot := hfk.get hot (by simp only [List.mem_cons, List.not_mem_nil, or_false]; omega)
          have hra := hfk.get hra (by simp only [List.mem_cons, List.not_mem_nil, or_false]; omega)
          have hna := hfk.get hna (by simp only [List.mem_cons, List.not_mem_nil, or_false]; omega)
          have hnl := hfk.get hnl (by simp only [List.mem_cons, List.not_mem_nil, or_false]; omega)
          have hf_subject := hfk.get hf_subject (by decide)
          have hby_ := hfk.get hby_ (by decide)
          have hco := hfk.get hco (by decide)
          have hre := hfk.get hre (by decide)
          have hho := hfk.get hho (by decide)
          have hwk_k := hfk.get hwk_k (by decide)
          have hstk_k := hfk.get hstk_k (by decide)
          have pthI_f_threads := thI.fr hfk pthI_f_threads (by decide) (by decide) (by decide) (by decide) (by decide) (by decide) (by decide) (by decide)
          have pomI_f_oneMind := omI.fr hfk pomI_f_oneMind (by decide) (by decide) (by decide) (by decide) (by decide) (by decide) (by decide) (by decide)
          have pstI_f_states := stI.fr hfk pstI_f_states (by decide) (by decide) (by decide) (by decide) (by decide) (by decide) (by decide) (by decide) (by decide)
          have hfr := hfr.tr hfk (by simp)
          have hq117 := hfk.1
          have hf_marks := hNf_marks
          have hmk2107 := hNmk2107
          change ab_W _ _ _ G103 109 [some (vR w_), some (vR q), some (vz hw), some (vz mch), some (vz p)] [] _
          have hzt2_ : zT nm2108 52026 ≤ 156078 := zT_le (c := 52026) (by omega) rfl
          refine ab_aload_n d_PW_run_109 rfl ?_
          refine ab_getf (fs := [vR f_ready, vR f_tape, vR f_reader, vR f_programs, vR f_subject, vR f_spans, vR f_threads, vR f_marks, vR f_oneMind, vR f_states, vR f_latest, vR f_matches, vR f_pieces, vR f_template, vR f_result, vR f_spare, vz cmp, vz ovs]) f_PW_55 d_PW_run_110 hw_.2.2 rfl ?_
          refine ab_iload d_PW_run_113 rfl ?_
          refine ab_callV (d' := d - 1) (as := [vz p]) (st := []) (r := _) (z_MK_find (o := o104) (q := q) (lq := lq) (ki := ki) (ne := ne) (ot := ot) (cnt := cnt) (fi := fi) (la := la) (ra := ra) (ru := ru) (gr := gr) (wi := wi) (sz := sz) (fl := fl) (ve := ve) (mi := mi) (na := na) (nl := nl) (K := K) (N := N) (O := O) (RR := RR) (nr := nr) (s := f_subject) (by_ := by_) (co := co) (re := re) (ho := ho) (n := n) (C := C) (Rs := Rs) (H := H) (mc := mc) (a := f_marks) (sp := f_spans) (wk := wk_k) (mk := mk2107) (stk := stk_k) (w := w2105) (df := p) (dp := dp_k) (fo := fo_k) (fy := fy2106) (hw := hw) (stp := stp_k) (SP := SP) (WK := WK_k) (M := M2109) (SK := SK_k) (nm := nm2108) (ns := ns) (p := p) (v9 := v9_) hf_marks hf_spans hwk_k hmk2107 hstk_k hq hki hne hot hra hf_subject hco hre hho (by omega) hp hr (by omega) hsu (by omega) (by omega) (by omega) (by omega) (by omega) (by omega) hst_k (by omega) (by omega) jsp (by omega) (by omega) hpm_ (ddC_0 (by omega)) (by omega)) (fun oc G2 h => by rcases h with ⟨_, _, _, _, _, _, _, _, _, _, _, h, _⟩ | ⟨_, _, _, _, _, _, _, _, _, _, _, _, h, _⟩ <;> exact ⟨_, h⟩) (by omega) m_MK_find ml_PW_251 im_MK_find se_MK_find c_MK hf_marks.2.2 (Nat.le_of_ble_eq_true rfl) d_PW_run_115 rfl ?_
          intro v G118 hq
          rcases hq with ⟨o119, df2120, dp2121, fo2122, st2123, sk2124, ns2125, WK2126, M2127, SK2128, SP2129, hv, hfk, hNf_marks, hNf_spans, hNwk_k, hNmk2107, hNsk2124, hq130, hq131, hq132, hq133, hq134, hq135, hq136, hq137⟩ | ⟨o138, df2139, dp2140, fo2141, st2142, sk2143, ns2144, WK2145, M2146, SK2147, SP2148, r149, hv, hfk, hNf_marks, hNf_spans, hNwk_k, hNmk2107, hNsk2143, hq150, hq151, hq152, hq153, hq154, hq155, hq156, hq157, hq158, hq159, hq160, hq161, hq162⟩
          · cases hv
            have hw_ := hfk.get hw_ (by decide)
            have h17 := hfk.get h17 (by decide)
            have hq := hfk.get hq (by simp only [List.mem_cons, List.not_mem_nil, or_false]; omega)
            have hki := hfk.get hki (by simp only [List.mem_cons, List.not_mem_nil, or_false]; omega)
            have hne := hfk.get hne (by simp only [List.mem_cons, List.not_mem_nil, or_false]; omega)
            have hot := hfk.get hot (by simp only [List.mem_cons, List.not_mem_nil, or_false]; omega)
            have hra := hfk.get hra (by simp only [List.mem_cons, List.not_mem_nil, or_false]; omega)
            have hna := hfk.get hna (by simp only [List.mem_cons, List.not_mem_nil, or_false]; omega)
            have hnl := hfk.get hnl (by simp only [List.mem_cons, List.not_mem_nil, or_false]; omega)
            have hf_subject := hfk.get hf_subject (by decide)
            have hby_ := hfk.get hby_ (by decide)
            have hco := hfk.get hco (by decide)
            have hre := hfk.get hre (by decide)
            have hho := hfk.get hho (by decide)
            have pthI_f_threads := thI.fr hfk pthI_f_threads (by decide) (by decide) (by decide) (by decide) (by decide) (by decide) (by decide) (by decide)
            have pomI_f_oneMind := omI.fr hfk pomI_f_oneMind (by decide) (by decide) (by decide) (by decide) (by decide) (by decide) (by decide) (by decide)
            have pstI_f_states := stI.fr hfk pstI_f_states (by decide) (by decide) (by decide) (by decide) (by decide) (by decide) (by decide) (by decide) (by decide)
            have hfr := hfr.tr hfk (by simp)
            have hq163 := hfk.1
            have hf_marks := hNf_marks
            have hf_spans := hNf_spans
            have hwk_k := hNwk_k
            have hmk2107 := hNmk2107
            have hsk2124 := hNsk2124
            change ab_W _ _ _ G118 118 [some (vR w_), some (vR q), some (vz hw), some (vz mch), some (vz p)] [vz (-1)] _
            have pmkI_f_marks : mkI o119 G118 f_marks nm2108 ns2125 := ⟨wk_k, mk2107, sk2124, w2105, df2120, dp2121, fo2122, fy2106, hw, st2123, WK2126, M2127, SK2128, vR f_spans, vR q, vR f_subject, hf_marks, hwk_k, hmk2107, hsk2124, (by omega), hq131, (by omega)⟩
            have hmq_ : onq mi on := hmi
            have ppgB_q : pgB o119 G118 q lq nr cv cmp on mi := ⟨ki, ne, ot, cnt, fi, la, ra, ru, gr, wi, sz, fl, ve, na, nl, K, N, O, RR, NA, NL, hq, hki, hne, hot, hra, hna, hnl, (by omega), hpu, hp, hr, hch, (by omega), (by omega), (by omega), (by omega), (by omega), hpo, hmq_, (by omega), (by omega), jnl, hiv, hmn, jna, hla, hpv, (by omega)⟩
            have psuI_f_subject : suI o119 G118 f_subject n m f := ⟨by_, co, re, ho, C, Rs, H, mc, hf_subject, hby_, hco, hre, hho, (by omega), hsu⟩
            refine zz_iret rfl d_PW_run_118 ?_
            rw [hQ]; exact ⟨_, _, _, _, _, _, _, _, _, rfl, hfr, hf_spans, pthI_f_threads, pmkI_f_marks, pomI_f_oneMind, pstI_f_states, psuI_f_subject, ppgB_q, (by omega), (by omega), (by exact hq133), (by omega), (by omega), (by first | exact Or.inl rfl | exact Or.inl rfl)⟩
          · cases hv
            have hw_ := hfk.get hw_ (by decide)
            have h17 := hfk.get h17 (by decide)
            have hq := hfk.get hq (by simp only [List.mem_cons, List.not_mem_nil, or_false]; omega)
            have hki := hfk.get hki (by simp only [List.mem_cons, List.not_mem_nil, or_false]; omega)
            have hne := hfk.get hne (by simp only [List.mem_cons, List.not_mem_nil, or_false]; omega)
            have hot := hfk.get hot (by simp only [List.mem_cons, List.not_mem_nil, or_false]; omega)
            have hra := hfk.get hra (by simp only [List.mem_cons, List.not_mem_nil, or_false]; omega)
            have hna := hfk.get hna (by simp only [List.mem_cons, List.not_mem_nil, or_false]; omega)
            have hnl := hfk.get hnl (by simp only [List.mem_cons, List.not_mem_nil, or_false]; omega)
            have hf_subject := hfk.get hf_subject (by decide)
            have hby_ := hfk.get hby_ (by decide)
            have hco := hfk.get hco (by decide)
            have hre := hfk.get hre (by decide)
            have hho := hfk.get hho (by decide)
            have pthI_f_threads := thI.fr hfk pthI_f_threads (by decide) (by decide) (by decide) (by decide) (by decide) (by decide) (by decide) (by decide)
            have pomI_f_oneMind := omI.fr hfk pomI_f_oneMind (by decide) (by decide) (by decide) (by decide) (by decide) (by decide) (by decide) (by decide)
            have pstI_f_states := stI.fr hfk pstI_f_states (by decide) (by decide) (by decide) (by decide) (by decide) (by decide) (by decide) (by decide) (by decide)
            have hfr := hfr.tr hfk (by simp)
            have hq164 := hfk.1
            have hf_marks := hNf_marks
            have hf_spans := hNf_spans
            have hwk_k := hNwk_k
            have hmk2107 := hNmk2107
            have hsk2143 := hNsk2143
            change ab_W _ _ _ G118 118 [some (vR w_), some (vR q), some (vz hw), some (vz mch), some (vz p)] [vz r149] _
            have pmkI_f_marks : mkI o138 G118 f_marks nm2108 ns2144 := ⟨wk_k, mk2107, sk2143, w2105, df2139, dp2140, fo2141, fy2106, hw, st2142, WK2145, M2146, SK2147, vR f_spans, vR q, vR f_subject, hf_marks, hwk_k, hmk2107, hsk2143, (by omega), hq151, (by omega)⟩
            have hmq_ : onq mi on := hmi
            have ppgB_q : pgB o138 G118 q lq nr cv cmp on mi := ⟨ki, ne, ot, cnt, fi, la, ra, ru, gr, wi, sz, fl, ve, na, nl, K, N, O, RR, NA, NL, hq, hki, hne, hot, hra, hna, hnl, (by omega), hpu, hp, hr, hch, (by omega), (by omega), (by omega), (by omega), (by omega), hpo, hmq_, (by omega), (by omega), jnl, hiv, hmn, jna, hla, hpv, (by omega)⟩
            have psuI_f_subject : suI o138 G118 f_subject n m f := ⟨by_, co, re, ho, C, Rs, H, mc, hf_subject, hby_, hco, hre, hho, (by omega), hsu⟩
            refine zz_iret rfl d_PW_run_118 ?_
            rw [hQ]; exact ⟨_, _, _, _, _, _, _, _, _, rfl, hfr, hf_spans, pthI_f_threads, pmkI_f_marks, pomI_f_oneMind, pstI_f_states, psuI_f_subject, ppgB_q, (by omega), (by omega), (by exact hq153), (by omega), (by omega), (by first | exact Or.inl rfl | exact Or.inl rfl)⟩
        · refine zz_iconst d_PW_run_88 ?_
          have hmq_ : onq mi on := hmi
          have ppgB_q : pgB o G70 q lq nr cv cmp on mi := ⟨ki, ne, ot, cnt, fi, la, ra, ru, gr, wi, sz, fl, ve, na, nl, K, N, O, RR, NA, NL, hq, hki, hne, hot, hra, hna, hnl, (by omega), hpu, hp, hr, hch, (by omega), (by omega), (by omega), (by omega), (by omega), hpo, hmq_, (by omega), (by omega), jnl, hiv, hmn, jna, hla, hpv, (by omega)⟩
          have psuI_f_subject : suI o G70 f_subject n m f := ⟨by_, co, re, ho, C, Rs, H, mc, hf_subject, hby_, hco, hre, hho, (by omega), hsu⟩
          refine zz_iret rfl d_PW_run_89 ?_
          rw [hQ]; exact ⟨_, _, _, _, _, _, _, _, _, rfl, hfr, hf_spans, pthI_f_threads, pmkI_f_marks, pomI_f_oneMind, pstI_f_states, psuI_f_subject, ppgB_q, (by omega), (by omega), (by exact jsp), (by omega), (by omega), (by first | exact Or.inl rfl | exact Or.inl rfl)⟩
    · refine ab_iload_n d_PW_run_30 rfl ?_
      refine zz_if_eq (tgt := 65) d_PW_run_31 (by decide) (by omega) (fun c165 => ?_) (fun c165 => ?_)
      · refine ab_iload_n d_PW_run_65 rfl ?_
        refine zz_iconst d_PW_run_66 ?_
        refine zz_icmp_ne (tgt := 90) d_PW_run_67 (by decide) (by omega) (by decide) (fun c166 => ?_) (fun c166 => absurd c166 (by omega))
        refine ab_aload_n d_PW_run_90 rfl ?_
        refine ab_getf (fs := [vR f_ready, vR f_tape, vR f_reader, vR f_programs, vR f_subject, vR f_spans, vR f_threads, vR f_marks, vR f_oneMind, vR f_states, vR f_latest, vR f_matches, vR f_pieces, vR f_template, vR f_result, vR f_spare, vz cmp, vz ovs]) f_PW_55 d_PW_run_91 hw_.2.2 rfl ?_
        refine ab_aload_n d_PW_run_94 rfl ?_
        refine ab_aload_n d_PW_run_95 rfl ?_
        refine ab_getf (fs := [vR f_ready, vR f_tape, vR f_reader, vR f_programs, vR f_subject, vR f_spans, vR f_threads, vR f_marks, vR f_oneMind, vR f_states, vR f_latest, vR f_matches, vR f_pieces, vR f_template, vR f_result, vR f_spare, vz cmp, vz ovs]) f_PW_38 d_PW_run_96 hw_.2.2 rfl ?_
        refine ab_iload_n d_PW_run_99 rfl ?_
        refine ab_iload d_PW_run_100 rfl ?_
        refine ab_aload_n d_PW_run_102 rfl ?_
        refine ab_getf (fs := [vR f_ready, vR f_tape, vR f_reader, vR f_programs, vR f_subject, vR f_spans, vR f_threads, vR f_marks, vR f_oneMind, vR f_states, vR f_latest, vR f_matches, vR f_pieces, vR f_template, vR f_result, vR f_spare, vz cmp, vz ovs]) f_PW_42 d_PW_run_103 hw_.2.2 rfl ?_
        obtain ⟨wk_k, mk_k, stk_k, w_k, df_k, dp_k, fo_k, fy_k, hw_k, stp_k, WK_k, M_k, SK_k, sp0_k, q0_k, s0_k, hf_marks, hwk_k, hmk_k, hstk_k, cn_k, hst_k, cfo_k⟩ := pmkI_f_marks
        refine ab_callV (d' := d - 1) (as := [vR q, vR f_subject, vz hw, vz p, vR f_spans]) (st := []) (r := _) (z_MK_begin (o := o) (q := q) (lq := lq) (ki := ki) (ne := ne) (ot := ot) (cnt := cnt) (fi := fi) (la := la) (ra := ra) (ru := ru) (gr := gr) (wi := wi) (sz := sz) (fl := fl) (ve := ve) (mi := mi) (na := na) (nl := nl) (s := f_subject) (by_ := by_) (co := co) (re := re) (ho := ho) (n := n) (a := f_marks) (sp := f_spans) (wk := wk_k) (mk := mk_k) (stk := stk_k) (dp := dp_k) (fo := fo_k) (hw := hw) (stp := stp_k) (M := M_k) (nm := nm) (q0 := q0_k) (s0 := s0_k) (sp0 := sp0_k) (from_ := p) (hw0 := hw_k) (fy0 := fy_k) (w0 := w_k) (df0 := df_k) hf_marks hmk_k hq hf_subject (by omega) (by omega) (by omega) (by omega) (by omega) (by omega) (by omega)) (fun oc G2 h => by rcases h with ⟨_, _, _, _, _, _, h, _⟩ <;> exact ⟨_, h⟩) (by omega) m_MK_begin ml_PW_189 im_MK_begin se_MK_begin c_MK hf_marks.2.2 (Nat.le_of_ble_eq_true rfl) d_PW_run_106 rfl ?_
        intro v G167 hq
        rcases hq with ⟨o168, w2169, fy2170, mk2171, nm2172, M2173, hv, hfk, hNf_marks, hNmk2171, hq174, hq175, hq176, hq177, hq178, hq179, hq180⟩
        cases hv
        have hw_ := hfk.get hw_ (by decide)
        have hf_spans := hfk.get hf_spans (by decide)
        have h17 := hfk.get h17 (by decide)
        have hq := hfk.get hq (by simp only [List.mem_cons, List.not_mem_nil, or_false]; omega)
        have hki := hfk.get hki (by simp only [List.mem_cons, List.not_mem_nil, or_false]; omega)
        have hne := hfk.get hne (by simp only [List.mem_cons, List.not_mem_nil, or_false]; omega)
        have hot := hfk.get hot (by simp only [List.mem_cons, List.not_mem_nil, or_false]; omega)
        have hra := hfk.get hra (by simp only [List.mem_cons, List.not_mem_nil, or_false]; omega)
        have hna := hfk.get hna (by simp only [List.mem_cons, List.not_mem_nil, or_false]; omega)
        have hnl := hfk.get hnl (by simp only [List.mem_cons, List.not_mem_nil, or_false]; omega)
        have hf_subject := hfk.get hf_subject (by decide)
        have hby_ := hfk.get hby_ (by decide)
        have hco := hfk.get hco (by decide)
        have hre := hfk.get hre (by decide)
        have hho := hfk.get hho (by decide)
        have hwk_k := hfk.get hwk_k (by decide)
        have hstk_k := hfk.get hstk_k (by decide)
        have pthI_f_threads := thI.fr hfk pthI_f_threads (by decide) (by decide) (by decide) (by decide) (by decide) (by decide) (by decide) (by decide)
        have pomI_f_oneMind := omI.fr hfk pomI_f_oneMind (by decide) (by decide) (by decide) (by decide) (by decide) (by decide) (by decide) (by decide)
        have pstI_f_states := stI.fr hfk pstI_f_states (by decide) (by decide) (by decide) (by decide) (by decide) (by decide) (by decide) (by decide) (by decide)
        have hfr := hfr.tr hfk (by simp)
        have hq181 := hfk.1
        have hf_marks := hNf_marks
        have hmk2171 := hNmk2171
        change ab_W _ _ _ G167 109 [some (vR w_), some (vR q), some (vz hw), some (vz mch), some (vz p)] [] _
        have hzt2_ : zT nm2172 52026 ≤ 156078 := zT_le (c := 52026) (by omega) rfl
        refine ab_aload_n d_PW_run_109 rfl ?_
        refine ab_getf (fs := [vR f_ready, vR f_tape, vR f_reader, vR f_programs, vR f_subject, vR f_spans, vR f_threads, vR f_marks, vR f_oneMind, vR f_states, vR f_latest, vR f_matches, vR f_pieces, vR f_template, vR f_result, vR f_spare, vz cmp, vz ovs]) f_PW_55 d_PW_run_110 hw_.2.2 rfl ?_
        refine ab_iload d_PW_run_113 rfl ?_
        refine ab_callV (d' := d - 1) (as := [vz p]) (st := []) (r := _) (z_MK_find (o := o168) (q := q) (lq := lq) (ki := ki) (ne := ne) (ot := ot) (cnt := cnt) (fi := fi) (la := la) (ra := ra) (ru := ru) (gr := gr) (wi := wi) (sz := sz) (fl := fl) (ve := ve) (mi := mi) (na := na) (nl := nl) (K := K) (N := N) (O := O) (RR := RR) (nr := nr) (s := f_subject) (by_ := by_) (co := co) (re := re) (ho := ho) (n := n) (C := C) (Rs := Rs) (H := H) (mc := mc) (a := f_marks) (sp := f_spans) (wk := wk_k) (mk := mk2171) (stk := stk_k) (w := w2169) (df := p) (dp := dp_k) (fo := fo_k) (fy := fy2170) (hw := hw) (stp := stp_k) (SP := SP) (WK := WK_k) (M := M2173) (SK := SK_k) (nm := nm2172) (ns := ns) (p := p) (v9 := v9_) hf_marks hf_spans hwk_k hmk2171 hstk_k hq hki hne hot hra hf_subject hco hre hho (by omega) hp hr (by omega) hsu (by omega) (by omega) (by omega) (by omega) (by omega) (by omega) hst_k (by omega) (by omega) jsp (by omega) (by omega) hpm_ (ddC_0 (by omega)) (by omega)) (fun oc G2 h => by rcases h with ⟨_, _, _, _, _, _, _, _, _, _, _, h, _⟩ | ⟨_, _, _, _, _, _, _, _, _, _, _, _, h, _⟩ <;> exact ⟨_, h⟩) (by omega) m_MK_find ml_PW_251 im_MK_find se_MK_find c_MK hf_marks.2.2 (Nat.le_of_ble_eq_true rfl) d_PW_run_115 rfl ?_
        intro v G182 hq
        rcases hq with ⟨o183, df2184, dp2185, fo2186, st2187, sk2188, ns2189, WK2190, M2191, SK2192, SP2193, hv, hfk, hNf_marks, hNf_spans, hNwk_k, hNmk2171, hNsk2188, hq194, hq195, hq196, hq197, hq198, hq199, hq200, hq201⟩ | ⟨o202, df2203, dp2204, fo2205, st2206, sk2207, ns2208, WK2209, M2210, SK2211, SP2212, r213, hv, hfk, hNf_marks, hNf_spans, hNwk_k, hNmk2171, hNsk2207, hq214, hq215, hq216, hq217, hq218, hq219, hq220, hq221, hq222, hq223, hq224, hq225, hq226⟩
        · cases hv
          have hw_ := hfk.get hw_ (by decide)
          have h17 := hfk.get h17 (by decide)
          have hq := hfk.get hq (by simp only [List.mem_cons, List.not_mem_nil, or_false]; omega)
          have hki := hfk.get hki (by simp only [List.mem_cons, List.not_mem_nil, or_false]; omega)
          have hne := hfk.get hne (by simp only [List.mem_cons, List.not_mem_nil, or_false]; omega)
          have hot := hfk.get hot (by simp only [List.mem_cons, List.not_mem_nil, or_false]; omega)
          have hra := hfk.get hra (by simp only [List.mem_cons, List.not_mem_nil, or_false]; omega)
          have hna := hfk.get hna (by simp only [List.mem_cons, List.not_mem_nil, or_false]; omega)
          have hnl := hfk.get hnl (by simp only [List.mem_cons, List.not_mem_nil, or_false]; omega)
          have hf_subject := hfk.get hf_subject (by decide)
          have hby_ := hfk.get hby_ (by decide)
          have hco := hfk.get hco (by decide)
          have hre := hfk.get hre (by decide)
          have hho := hfk.get hho (by decide)
          have pthI_f_threads := thI.fr hfk pthI_f_threads (by decide) (by decide) (by decide) (by decide) (by decide) (by decide) (by decide) (by decide)
          have pomI_f_oneMind := omI.fr hfk pomI_f_oneMind (by decide) (by decide) (by decide) (by decide) (by decide) (by decide) (by decide) (by decide)
          have pstI_f_states := stI.fr hfk pstI_f_states (by decide) (by decide) (by decide) (by decide) (by decide) (by decide) (by decide) (by decide) (by decide)
          have hfr := hfr.tr hfk (by simp)
          have hq227 := hfk.1
          have hf_marks := hNf_marks
          have hf_spans := hNf_spans
          have hwk_k := hNwk_k
          have hmk2171 := hNmk2171
          have hsk2188 := hNsk2188
          change ab_W _ _ _ G182 118 [some (vR w_), some (vR q), some (vz hw), some (vz mch), some (vz p)] [vz (-1)] _
          have pmkI_f_marks : mkI o183 G182 f_marks nm2172 ns2189 := ⟨wk_k, mk2171, sk2188, w2169, df2184, dp2185, fo2186, fy2170, hw, st2187, WK2190, M2191, SK2192, vR f_spans, vR q, vR f_subject, hf_marks, hwk_k, hmk2171, hsk2188, (by omega), hq195, (by omega)⟩
          have hmq_ : onq mi on := hmi
          have ppgB_q : pgB o183 G182 q lq nr cv cmp on mi := ⟨ki, ne, ot, cnt, fi, la, ra, ru, gr, wi, sz, fl, ve, na, nl, K, N, O, RR, NA, NL, hq, hki, hne, hot, hra, hna, hnl, (by omega), hpu, hp, hr, hch, (by omega), (by omega), (by omega), (by omega), (by omega), hpo, hmq_, (by omega), (by omega), jnl, hiv, hmn, jna, hla, hpv, (by omega)⟩
          have psuI_f_subject : suI o183 G182 f_subject n m f := ⟨by_, co, re, ho, C, Rs, H, mc, hf_subject, hby_, hco, hre, hho, (by omega), hsu⟩
          refine zz_iret rfl d_PW_run_118 ?_
          rw [hQ]; exact ⟨_, _, _, _, _, _, _, _, _, rfl, hfr, hf_spans, pthI_f_threads, pmkI_f_marks, pomI_f_oneMind, pstI_f_states, psuI_f_subject, ppgB_q, (by omega), (by omega), (by exact hq197), (by omega), (by omega), (by first | exact Or.inl rfl | exact Or.inl rfl)⟩
        · cases hv
          have hw_ := hfk.get hw_ (by decide)
          have h17 := hfk.get h17 (by decide)
          have hq := hfk.get hq (by simp only [List.mem_cons, List.not_mem_nil, or_false]; omega)
          have hki := hfk.get hki (by simp only [List.mem_cons, List.not_mem_nil, or_false]; omega)
          have hne := hfk.get hne (by simp only [List.mem_cons, List.not_mem_nil, or_false]; omega)
          have hot := hfk.get hot (by simp only [List.mem_cons, List.not_mem_nil, or_false]; omega)
          have hra := hfk.get hra (by simp only [List.mem_cons, List.not_mem_nil, or_false]; omega)
          have hna := hfk.get hna (by simp only [List.mem_cons, List.not_mem_nil, or_false]; omega)
          have hnl := hfk.get hnl (by simp only [List.mem_cons, List.not_mem_nil, or_false]; omega)
          have hf_subject := hfk.get hf_subject (by decide)
          have hby_ := hfk.get hby_ (by decide)
          have hco := hfk.get hco (by decide)
          have hre := hfk.get hre (by decide)
          have hho := hfk.get hho (by decide)
          have pthI_f_threads := thI.fr hfk pthI_f_threads (by decide) (by decide) (by decide) (by decide) (by decide) (by decide) (by decide) (by decide)
          have pomI_f_oneMind := omI.fr hfk pomI_f_oneMind (by decide) (by decide) (by decide) (by decide) (by decide) (by decide) (by decide) (by decide)
          have pstI_f_states := stI.fr hfk pstI_f_states (by decide) (by decide) (by decide) (by decide) (by decide) (by decide) (by decide) (by decide) (by decide)
          have hfr := hfr.tr hfk (by simp)
          have hq228 := hfk.1
          have hf_marks := hNf_marks
          have hf_spans := hNf_spans
          have hwk_k := hNwk_k
          have hmk2171 := hNmk2171
          have hsk2207 := hNsk2207
          change ab_W _ _ _ G182 118 [some (vR w_), some (vR q), some (vz hw), some (vz mch), some (vz p)] [vz r213] _
          have pmkI_f_marks : mkI o202 G182 f_marks nm2172 ns2208 := ⟨wk_k, mk2171, sk2207, w2169, df2203, dp2204, fo2205, fy2170, hw, st2206, WK2209, M2210, SK2211, vR f_spans, vR q, vR f_subject, hf_marks, hwk_k, hmk2171, hsk2207, (by omega), hq215, (by omega)⟩
          have hmq_ : onq mi on := hmi
          have ppgB_q : pgB o202 G182 q lq nr cv cmp on mi := ⟨ki, ne, ot, cnt, fi, la, ra, ru, gr, wi, sz, fl, ve, na, nl, K, N, O, RR, NA, NL, hq, hki, hne, hot, hra, hna, hnl, (by omega), hpu, hp, hr, hch, (by omega), (by omega), (by omega), (by omega), (by omega), hpo, hmq_, (by omega), (by omega), jnl, hiv, hmn, jna, hla, hpv, (by omega)⟩
          have psuI_f_subject : suI o202 G182 f_subject n m f := ⟨by_, co, re, ho, C, Rs, H, mc, hf_subject, hby_, hco, hre, hho, (by omega), hsu⟩
          refine zz_iret rfl d_PW_run_118 ?_
          rw [hQ]; exact ⟨_, _, _, _, _, _, _, _, _, rfl, hfr, hf_spans, pthI_f_threads, pmkI_f_marks, pomI_f_oneMind, pstI_f_states, psuI_f_subject, ppgB_q, (by omega), (by omega), (by exact hq217), (by omega), (by omega), (by first | exact Or.inl rfl | exact Or.inl rfl)⟩
      · refine ab_aload_n d_PW_run_34 rfl ?_
        refine ab_getf (fs := [vR f_ready, vR f_tape, vR f_reader, vR f_programs, vR f_subject, vR f_spans, vR f_threads, vR f_marks, vR f_oneMind, vR f_states, vR f_latest, vR f_matches, vR f_pieces, vR f_template, vR f_result, vR f_spare, vz cmp, vz ovs]) f_PW_62 d_PW_run_35 hw_.2.2 rfl ?_
        refine ab_aload_n d_PW_run_38 rfl ?_
        obtain ⟨fsR, hR⟩ := pomI_f_oneMind.recv
        refine ab_callV (d' := d - 1) (as := [vR q]) (st := []) (r := _) (z_OM_suits (o := o) (a := f_oneMind) (on := on) (nt := nt) (q := q) (lq := lq) (ki := ki) (ne := ne) (ot := ot) (cnt := cnt) (fi := fi) (la := la) (ra := ra) (ru := ru) (gr := gr) (wi := wi) (sz := sz) (fl := fl) (ve := ve) (mi := mi) (na := na) (nl := nl) (K := K) (N := N) (O := O) (RR := RR) (nr := nr) hq hki hne hot hra pomI_f_oneMind (by omega) (by omega) hpu hp hr (by omega) (by omega) (by omega) (by omega) hpo hmi (by omega) (by omega) (by omega)) (fun oc G2 h => by rcases h with ⟨_, _, _, _, h, _⟩ | ⟨_, _, _, _, h, _⟩ <;> exact ⟨_, h⟩) (by omega) m_OM_suits ml_PW_247 im_OM_suits se_OM_suits c_OM hR (Nat.le_of_ble_eq_true rfl) d_PW_run_39 rfl ?_
        intro v G229 hq
        rcases hq with ⟨o230, on2231, nt2232, mi2233, hv, hfk, hNq, hNki, hNne, hNot, hNra, pNomI_f_oneMind, hq234, hq235, hq236, hq237, hq238, hq239⟩ | ⟨o240, on2241, nt2242, mi2243, hv, hfk, hNq, hNki, hNne, hNot, hNra, pNomI_f_oneMind, hq244, hq245, hq246, hq247, hq248, hq249, hq250, hq251⟩
        · cases hv
          have hw_ := hfk.get hw_ (by simp only [List.mem_cons, List.not_mem_nil, or_false]; omega)
          have hf_spans := hfk.get hf_spans (by simp only [List.mem_cons, List.not_mem_nil, or_false]; omega)
          have h17 := hfk.get h17 (by simp only [List.mem_cons, List.not_mem_nil, or_false]; omega)
          have hna := hfk.get hna (by simp only [List.mem_cons, List.not_mem_nil, or_false]; omega)
          have hnl := hfk.get hnl (by simp only [List.mem_cons, List.not_mem_nil, or_false]; omega)
          have hf_subject := hfk.get hf_subject (by simp only [List.mem_cons, List.not_mem_nil, or_false]; omega)
          have hby_ := hfk.get hby_ (by simp only [List.mem_cons, List.not_mem_nil, or_false]; omega)
          have hco := hfk.get hco (by simp only [List.mem_cons, List.not_mem_nil, or_false]; omega)
          have hre := hfk.get hre (by simp only [List.mem_cons, List.not_mem_nil, or_false]; omega)
          have hho := hfk.get hho (by simp only [List.mem_cons, List.not_mem_nil, or_false]; omega)
          have pthI_f_threads := thI.fr hfk pthI_f_threads (by simp only [List.mem_cons, List.not_mem_nil, or_false]; omega) (by simp only [List.mem_cons, List.not_mem_nil, or_false]; omega) (by simp only [List.mem_cons, List.not_mem_nil, or_false]; omega) (by simp only [List.mem_cons, List.not_mem_nil, or_false]; omega) (by simp only [List.mem_cons, List.not_mem_nil, or_false]; omega) (by simp only [List.mem_cons, List.not_mem_nil, or_false]; omega) (by simp only [List.mem_cons, List.not_mem_nil, or_false]; omega) (by simp only [List.mem_cons, List.not_mem_nil, or_false]; omega)
          have pmkI_f_marks := mkI.fr hfk pmkI_f_marks (by simp only [List.mem_cons, List.not_mem_nil, or_false]; omega) (by simp only [List.mem_cons, List.not_mem_nil, or_false]; omega) (by simp only [List.mem_cons, List.not_mem_nil, or_false]; omega) (by simp only [List.mem_cons, List.not_mem_nil, or_false]; omega)
          have pstI_f_states := stI.fr hfk pstI_f_states (by simp only [List.mem_cons, List.not_mem_nil, or_false]; omega) (by simp only [List.mem_cons, List.not_mem_nil, or_false]; omega) (by simp only [List.mem_cons, List.not_mem_nil, or_false]; omega) (by simp only [List.mem_cons, List.not_mem_nil, or_false]; omega) (by simp only [List.mem_cons, List.not_mem_nil, or_false]; omega) (by simp only [List.mem_cons, List.not_mem_nil, or_false]; omega) (by simp only [List.mem_cons, List.not_mem_nil, or_false]; omega) (by simp only [List.mem_cons, List.not_mem_nil, or_false]; omega) (by simp only [List.mem_cons, List.not_mem_nil, or_false]; omega)
          have pomI_f_oneMind := pNomI_f_oneMind
          have hfr := hfr.tr hfk (by simp)
          have hq252 := hfk.1
          have hq := hNq
          have hki := hNki
          have hne := hNne
          have hot := hNot
          have hra := hNra
          change ab_W _ _ _ G229 42 [some (vR w_), some (vR q), some (vz hw), some (vz mch), some (vz p)] [vz 0] _
          refine zz_if_eq (tgt := 65) d_PW_run_42 (by decide) (by decide) (fun c254 => ?_) (fun c254 => absurd c254 (by decide))
          refine ab_iload_n d_PW_run_65 rfl ?_
          refine zz_iconst d_PW_run_66 ?_
          refine zz_icmp_ne (tgt := 90) d_PW_run_67 (by decide) (by omega) (by decide) (fun c255 => ?_) (fun c255 => absurd c255 (by omega))
          refine ab_aload_n d_PW_run_90 rfl ?_
          refine ab_getf (fs := [vR f_ready, vR f_tape, vR f_reader, vR f_programs, vR f_subject, vR f_spans, vR f_threads, vR f_marks, vR f_oneMind, vR f_states, vR f_latest, vR f_matches, vR f_pieces, vR f_template, vR f_result, vR f_spare, vz cmp, vz ovs]) f_PW_55 d_PW_run_91 hw_.2.2 rfl ?_
          refine ab_aload_n d_PW_run_94 rfl ?_
          refine ab_aload_n d_PW_run_95 rfl ?_
          refine ab_getf (fs := [vR f_ready, vR f_tape, vR f_reader, vR f_programs, vR f_subject, vR f_spans, vR f_threads, vR f_marks, vR f_oneMind, vR f_states, vR f_latest, vR f_matches, vR f_pieces, vR f_template, vR f_result, vR f_spare, vz cmp, vz ovs]) f_PW_38 d_PW_run_96 hw_.2.2 rfl ?_
          refine ab_iload_n d_PW_run_99 rfl ?_
          refine ab_iload d_PW_run_100 rfl ?_
          refine ab_aload_n d_PW_run_102 rfl ?_
          refine ab_getf (fs := [vR f_ready, vR f_tape, vR f_reader, vR f_programs, vR f_subject, vR f_spans, vR f_threads, vR f_marks, vR f_oneMind, vR f_states, vR f_latest, vR f_matches, vR f_pieces, vR f_template, vR f_result, vR f_spare, vz cmp, vz ovs]) f_PW_42 d_PW_run_103 hw_.2.2 rfl ?_
          have hnt2_ := pomI_f_oneMind.nt
          have hq256 := stT_le ns
          have hq257 := stC_le ns
          have hq258 := onPQ_le on2231
          have hq259 := onSQ_le on2231
          obtain ⟨wk_k, mk_k, stk_k, w_k, df_k, dp_k, fo_k, fy_k, hw_k, stp_k, WK_k, M_k, SK_k, sp0_k, q0_k, s0_k, hf_marks, hwk_k, hmk_k, hstk_k, cn_k, hst_k, cfo_k⟩ := pmkI_f_marks
          refine ab_callV (d' := d - 1) (as := [vR q, vR f_subject, vz hw, vz p, vR f_spans]) (st := []) (r := _) (z_MK_begin (o := o230) (q := q) (lq := lq) (ki := ki) (ne := ne) (ot := ot) (cnt := cnt) (fi := fi) (la := la) (ra := ra) (ru := ru) (gr := gr) (wi := wi) (sz := sz) (fl := fl) (ve := ve) (mi := mi2233) (na := na) (nl := nl) (s := f_subject) (by_ := by_) (co := co) (re := re) (ho := ho) (n := n) (a := f_marks) (sp := f_spans) (wk := wk_k) (mk := mk_k) (stk := stk_k) (dp := dp_k) (fo := fo_k) (hw := hw) (stp := stp_k) (M := M_k) (nm := nm) (q0 := q0_k) (s0 := s0_k) (sp0 := sp0_k) (from_ := p) (hw0 := hw_k) (fy0 := fy_k) (w0 := w_k) (df0 := df_k) hf_marks hmk_k hq hf_subject (by omega) (by omega) (by omega) (by omega) (by omega) (by omega) (by omega)) (fun oc G2 h => by rcases h with ⟨_, _, _, _, _, _, h, _⟩ <;> exact ⟨_, h⟩) (by omega) m_MK_begin ml_PW_189 im_MK_begin se_MK_begin c_MK hf_marks.2.2 (Nat.le_of_ble_eq_true rfl) d_PW_run_106 rfl ?_
          intro v G260 hq
          rcases hq with ⟨o261, w2262, fy2263, mk2264, nm2265, M2266, hv, hfk, hNf_marks, hNmk2264, hq267, hq268, hq269, hq270, hq271, hq272, hq273⟩
          cases hv
          have hw_ := hfk.get hw_ (by decide)
          have hf_spans := hfk.get hf_spans (by decide)
          have h17 := hfk.get h17 (by decide)
          have hq := hfk.get hq (by simp only [List.mem_cons, List.not_mem_nil, or_false]; omega)
          have hki := hfk.get hki (by simp only [List.mem_cons, List.not_mem_nil, or_false]; omega)
          have hne := hfk.get hne (by simp only [List.mem_cons, List.not_mem_nil, or_false]; omega)
          have hot := hfk.get hot (by simp only [List.mem_cons, List.not_mem_nil, or_false]; omega)
          have hra := hfk.get hra (by simp only [List.mem_cons, List.not_mem_nil, or_false]; omega)
          have hna := hfk.get hna (by simp only [List.mem_cons, List.not_mem_nil, or_false]; omega)
          have hnl := hfk.get hnl (by simp only [List.mem_cons, List.not_mem_nil, or_false]; omega)
          have hf_subject := hfk.get hf_subject (by decide)
          have hby_ := hfk.get hby_ (by decide)
          have hco := hfk.get hco (by decide)
          have hre := hfk.get hre (by decide)
          have hho := hfk.get hho (by decide)
          have hwk_k := hfk.get hwk_k (by decide)
          have hstk_k := hfk.get hstk_k (by decide)
          have pthI_f_threads := thI.fr hfk pthI_f_threads (by decide) (by decide) (by decide) (by decide) (by decide) (by decide) (by decide) (by decide)
          have pomI_f_oneMind := omI.fr hfk pomI_f_oneMind (by decide) (by decide) (by decide) (by decide) (by decide) (by decide) (by decide) (by decide)
          have pstI_f_states := stI.fr hfk pstI_f_states (by decide) (by decide) (by decide) (by decide) (by decide) (by decide) (by decide) (by decide) (by decide)
          have hfr := hfr.tr hfk (by simp)
          have hq274 := hfk.1
          have hf_marks := hNf_marks
          have hmk2264 := hNmk2264
          change ab_W _ _ _ G260 109 [some (vR w_), some (vR q), some (vz hw), some (vz mch), some (vz p)] [] _
          have hzt2_ : zT nm2265 52026 ≤ 156078 := zT_le (c := 52026) (by omega) rfl
          refine ab_aload_n d_PW_run_109 rfl ?_
          refine ab_getf (fs := [vR f_ready, vR f_tape, vR f_reader, vR f_programs, vR f_subject, vR f_spans, vR f_threads, vR f_marks, vR f_oneMind, vR f_states, vR f_latest, vR f_matches, vR f_pieces, vR f_template, vR f_result, vR f_spare, vz cmp, vz ovs]) f_PW_55 d_PW_run_110 hw_.2.2 rfl ?_
          refine ab_iload d_PW_run_113 rfl ?_
          refine ab_callV (d' := d - 1) (as := [vz p]) (st := []) (r := _) (z_MK_find (o := o261) (q := q) (lq := lq) (ki := ki) (ne := ne) (ot := ot) (cnt := cnt) (fi := fi) (la := la) (ra := ra) (ru := ru) (gr := gr) (wi := wi) (sz := sz) (fl := fl) (ve := ve) (mi := mi2233) (na := na) (nl := nl) (K := K) (N := N) (O := O) (RR := RR) (nr := nr) (s := f_subject) (by_ := by_) (co := co) (re := re) (ho := ho) (n := n) (C := C) (Rs := Rs) (H := H) (mc := mc) (a := f_marks) (sp := f_spans) (wk := wk_k) (mk := mk2264) (stk := stk_k) (w := w2262) (df := p) (dp := dp_k) (fo := fo_k) (fy := fy2263) (hw := hw) (stp := stp_k) (SP := SP) (WK := WK_k) (M := M2266) (SK := SK_k) (nm := nm2265) (ns := ns) (p := p) (v9 := v9_) hf_marks hf_spans hwk_k hmk2264 hstk_k hq hki hne hot hra hf_subject hco hre hho (by omega) hp hr (by omega) hsu (by omega) (by omega) (by omega) (by omega) (by omega) (by omega) hst_k (by omega) (by omega) jsp (by omega) (by omega) hpm_ (ddC_0 (by omega)) (by omega)) (fun oc G2 h => by rcases h with ⟨_, _, _, _, _, _, _, _, _, _, _, h, _⟩ | ⟨_, _, _, _, _, _, _, _, _, _, _, _, h, _⟩ <;> exact ⟨_, h⟩) (by omega) m_MK_find ml_PW_251 im_MK_find se_MK_find c_MK hf_marks.2.2 (Nat.le_of_ble_eq_true rfl) d_PW_run_115 rfl ?_
          intro v G275 hq
          rcases hq with ⟨o276, df2277, dp2278, fo2279, st2280, sk2281, ns2282, WK2283, M2284, SK2285, SP2286, hv, hfk, hNf_marks, hNf_spans, hNwk_k, hNmk2264, hNsk2281, hq287, hq288, hq289, hq290, hq291, hq292, hq293, hq294⟩ | ⟨o295, df2296, dp2297, fo2298, st2299, sk2300, ns2301, WK2302, M2303, SK2304, SP2305, r306, hv, hfk, hNf_marks, hNf_spans, hNwk_k, hNmk2264, hNsk2300, hq307, hq308, hq309, hq310, hq311, hq312, hq313, hq314, hq315, hq316, hq317, hq318, hq319⟩
          · cases hv
            have hw_ := hfk.get hw_ (by decide)
            have h17 := hfk.get h17 (by decide)
            have hq := hfk.get hq (by simp only [List.mem_cons, List.not_mem_nil, or_false]; omega)
            have hki := hfk.get hki (by simp only [List.mem_cons, List.not_mem_nil, or_false]; omega)
            have hne := hfk.get hne (by simp only [List.mem_cons, List.not_mem_nil, or_false]; omega)
            have hot := hfk.get hot (by simp only [List.mem_cons, List.not_mem_nil, or_false]; omega)
            have hra := hfk.get hra (by simp only [List.mem_cons, List.not_mem_nil, or_false]; omega)
            have hna := hfk.get hna (by simp only [List.mem_cons, List.not_mem_nil, or_false]; omega)
            have hnl := hfk.get hnl (by simp only [List.mem_cons, List.not_mem_nil, or_false]; omega)
            have hf_subject := hfk.get hf_subject (by decide)
            have hby_ := hfk.get hby_ (by decide)
            have hco := hfk.get hco (by decide)
            have hre := hfk.get hre (by decide)
            have hho := hfk.get hho (by decide)
            have pthI_f_threads := thI.fr hfk pthI_f_threads (by decide) (by decide) (by decide) (by decide) (by decide) (by decide) (by decide) (by decide)
            have pomI_f_oneMind := omI.fr hfk pomI_f_oneMind (by decide) (by decide) (by decide) (by decide) (by decide) (by decide) (by decide) (by decide)
            have pstI_f_states := stI.fr hfk pstI_f_states (by decide) (by decide) (by decide) (by decide) (by decide) (by decide) (by decide) (by decide) (by decide)
            have hfr := hfr.tr hfk (by simp)
            have hq320 := hfk.1
            have hf_marks := hNf_marks
            have hf_spans := hNf_spans
            have hwk_k := hNwk_k
            have hmk2264 := hNmk2264
            have hsk2281 := hNsk2281
            change ab_W _ _ _ G275 118 [some (vR w_), some (vR q), some (vz hw), some (vz mch), some (vz p)] [vz (-1)] _
            have pmkI_f_marks : mkI o276 G275 f_marks nm2265 ns2282 := ⟨wk_k, mk2264, sk2281, w2262, df2277, dp2278, fo2279, fy2263, hw, st2280, WK2283, M2284, SK2285, vR f_spans, vR q, vR f_subject, hf_marks, hwk_k, hmk2264, hsk2281, (by omega), hq288, (by omega)⟩
            have hmq_ : onq mi2233 on2231 := hq236
            have ppgB_q : pgB o276 G275 q lq nr cv cmp on2231 mi2233 := ⟨ki, ne, ot, cnt, fi, la, ra, ru, gr, wi, sz, fl, ve, na, nl, K, N, O, RR, NA, NL, hq, hki, hne, hot, hra, hna, hnl, (by omega), hpu, hp, hr, hch, (by omega), (by omega), (by omega), (by omega), (by omega), hq235, hmq_, (by omega), (by omega), jnl, hiv, hmn, jna, hla, hpv, (by omega)⟩
            have psuI_f_subject : suI o276 G275 f_subject n m f := ⟨by_, co, re, ho, C, Rs, H, mc, hf_subject, hby_, hco, hre, hho, (by omega), hsu⟩
            refine zz_iret rfl d_PW_run_118 ?_
            rw [hQ]; exact ⟨_, _, _, _, _, _, _, _, _, rfl, hfr, hf_spans, pthI_f_threads, pmkI_f_marks, pomI_f_oneMind, pstI_f_states, psuI_f_subject, ppgB_q, (by omega), (by omega), (by exact hq290), (by omega), (by omega), (by first | exact Or.inl rfl | exact hq239)⟩
          · cases hv
            have hw_ := hfk.get hw_ (by decide)
            have h17 := hfk.get h17 (by decide)
            have hq := hfk.get hq (by simp only [List.mem_cons, List.not_mem_nil, or_false]; omega)
            have hki := hfk.get hki (by simp only [List.mem_cons, List.not_mem_nil, or_false]; omega)
            have hne := hfk.get hne (by simp only [List.mem_cons, List.not_mem_nil, or_false]; omega)
            have hot := hfk.get hot (by simp only [List.mem_cons, List.not_mem_nil, or_false]; omega)
            have hra := hfk.get hra (by simp only [List.mem_cons, List.not_mem_nil, or_false]; omega)
            have hna := hfk.get hna (by simp only [List.mem_cons, List.not_mem_nil, or_false]; omega)
            have hnl := hfk.get hnl (by simp only [List.mem_cons, List.not_mem_nil, or_false]; omega)
            have hf_subject := hfk.get hf_subject (by decide)
            have hby_ := hfk.get hby_ (by decide)
            have hco := hfk.get hco (by decide)
            have hre := hfk.get hre (by decide)
            have hho := hfk.get hho (by decide)
            have pthI_f_threads := thI.fr hfk pthI_f_threads (by decide) (by decide) (by decide) (by decide) (by decide) (by decide) (by decide) (by decide)
            have pomI_f_oneMind := omI.fr hfk pomI_f_oneMind (by decide) (by decide) (by decide) (by decide) (by decide) (by decide) (by decide) (by decide)
            have pstI_f_states := stI.fr hfk pstI_f_states (by decide) (by decide) (by decide) (by decide) (by decide) (by decide) (by decide) (by decide) (by decide)
            have hfr := hfr.tr hfk (by simp)
            have hq321 := hfk.1
            have hf_marks := hNf_marks
            have hf_spans := hNf_spans
            have hwk_k := hNwk_k
            have hmk2264 := hNmk2264
            have hsk2300 := hNsk2300
            change ab_W _ _ _ G275 118 [some (vR w_), some (vR q), some (vz hw), some (vz mch), some (vz p)] [vz r306] _
            have pmkI_f_marks : mkI o295 G275 f_marks nm2265 ns2301 := ⟨wk_k, mk2264, sk2300, w2262, df2296, dp2297, fo2298, fy2263, hw, st2299, WK2302, M2303, SK2304, vR f_spans, vR q, vR f_subject, hf_marks, hwk_k, hmk2264, hsk2300, (by omega), hq308, (by omega)⟩
            have hmq_ : onq mi2233 on2231 := hq236
            have ppgB_q : pgB o295 G275 q lq nr cv cmp on2231 mi2233 := ⟨ki, ne, ot, cnt, fi, la, ra, ru, gr, wi, sz, fl, ve, na, nl, K, N, O, RR, NA, NL, hq, hki, hne, hot, hra, hna, hnl, (by omega), hpu, hp, hr, hch, (by omega), (by omega), (by omega), (by omega), (by omega), hq235, hmq_, (by omega), (by omega), jnl, hiv, hmn, jna, hla, hpv, (by omega)⟩
            have psuI_f_subject : suI o295 G275 f_subject n m f := ⟨by_, co, re, ho, C, Rs, H, mc, hf_subject, hby_, hco, hre, hho, (by omega), hsu⟩
            refine zz_iret rfl d_PW_run_118 ?_
            rw [hQ]; exact ⟨_, _, _, _, _, _, _, _, _, rfl, hfr, hf_spans, pthI_f_threads, pmkI_f_marks, pomI_f_oneMind, pstI_f_states, psuI_f_subject, ppgB_q, (by omega), (by omega), (by exact hq310), (by omega), (by omega), (by first | exact Or.inl rfl | exact hq239)⟩
        · cases hv
          have hw_ := hfk.get hw_ (by simp only [List.mem_cons, List.not_mem_nil, or_false]; omega)
          have hf_spans := hfk.get hf_spans (by simp only [List.mem_cons, List.not_mem_nil, or_false]; omega)
          have h17 := hfk.get h17 (by simp only [List.mem_cons, List.not_mem_nil, or_false]; omega)
          have hna := hfk.get hna (by simp only [List.mem_cons, List.not_mem_nil, or_false]; omega)
          have hnl := hfk.get hnl (by simp only [List.mem_cons, List.not_mem_nil, or_false]; omega)
          have hf_subject := hfk.get hf_subject (by simp only [List.mem_cons, List.not_mem_nil, or_false]; omega)
          have hby_ := hfk.get hby_ (by simp only [List.mem_cons, List.not_mem_nil, or_false]; omega)
          have hco := hfk.get hco (by simp only [List.mem_cons, List.not_mem_nil, or_false]; omega)
          have hre := hfk.get hre (by simp only [List.mem_cons, List.not_mem_nil, or_false]; omega)
          have hho := hfk.get hho (by simp only [List.mem_cons, List.not_mem_nil, or_false]; omega)
          have pthI_f_threads := thI.fr hfk pthI_f_threads (by simp only [List.mem_cons, List.not_mem_nil, or_false]; omega) (by simp only [List.mem_cons, List.not_mem_nil, or_false]; omega) (by simp only [List.mem_cons, List.not_mem_nil, or_false]; omega) (by simp only [List.mem_cons, List.not_mem_nil, or_false]; omega) (by simp only [List.mem_cons, List.not_mem_nil, or_false]; omega) (by simp only [List.mem_cons, List.not_mem_nil, or_false]; omega) (by simp only [List.mem_cons, List.not_mem_nil, or_false]; omega) (by simp only [List.mem_cons, List.not_mem_nil, or_false]; omega)
          have pmkI_f_marks := mkI.fr hfk pmkI_f_marks (by simp only [List.mem_cons, List.not_mem_nil, or_false]; omega) (by simp only [List.mem_cons, List.not_mem_nil, or_false]; omega) (by simp only [List.mem_cons, List.not_mem_nil, or_false]; omega) (by simp only [List.mem_cons, List.not_mem_nil, or_false]; omega)
          have pstI_f_states := stI.fr hfk pstI_f_states (by simp only [List.mem_cons, List.not_mem_nil, or_false]; omega) (by simp only [List.mem_cons, List.not_mem_nil, or_false]; omega) (by simp only [List.mem_cons, List.not_mem_nil, or_false]; omega) (by simp only [List.mem_cons, List.not_mem_nil, or_false]; omega) (by simp only [List.mem_cons, List.not_mem_nil, or_false]; omega) (by simp only [List.mem_cons, List.not_mem_nil, or_false]; omega) (by simp only [List.mem_cons, List.not_mem_nil, or_false]; omega) (by simp only [List.mem_cons, List.not_mem_nil, or_false]; omega) (by simp only [List.mem_cons, List.not_mem_nil, or_false]; omega)
          have pomI_f_oneMind := pNomI_f_oneMind
          have hfr := hfr.tr hfk (by simp)
          have hq253 := hfk.1
          have hq := hNq
          have hki := hNki
          have hne := hNne
          have hot := hNot
          have hra := hNra
          change ab_W _ _ _ G229 42 [some (vR w_), some (vR q), some (vz hw), some (vz mch), some (vz p)] [vz 1] _
          refine zz_if_eq (tgt := 65) d_PW_run_42 (by decide) (by decide) (fun c322 => absurd c322 (by decide)) (fun c322 => ?_)
          refine ab_aload_n d_PW_run_45 rfl ?_
          refine ab_getf (fs := [vR f_ready, vR f_tape, vR f_reader, vR f_programs, vR f_subject, vR f_spans, vR f_threads, vR f_marks, vR f_oneMind, vR f_states, vR f_latest, vR f_matches, vR f_pieces, vR f_template, vR f_result, vR f_spare, vz cmp, vz ovs]) f_PW_62 d_PW_run_46 hw_.2.2 rfl ?_
          refine ab_aload_n d_PW_run_49 rfl ?_
          refine ab_aload_n d_PW_run_50 rfl ?_
          refine ab_getf (fs := [vR f_ready, vR f_tape, vR f_reader, vR f_programs, vR f_subject, vR f_spans, vR f_threads, vR f_marks, vR f_oneMind, vR f_states, vR f_latest, vR f_matches, vR f_pieces, vR f_template, vR f_result, vR f_spare, vz cmp, vz ovs]) f_PW_38 d_PW_run_51 hw_.2.2 rfl ?_
          refine ab_iload_n d_PW_run_54 rfl ?_
          refine ab_iload d_PW_run_55 rfl ?_
          refine ab_aload_n d_PW_run_57 rfl ?_
          refine ab_getf (fs := [vR f_ready, vR f_tape, vR f_reader, vR f_programs, vR f_subject, vR f_spans, vR f_threads, vR f_marks, vR f_oneMind, vR f_states, vR f_latest, vR f_matches, vR f_pieces, vR f_template, vR f_result, vR f_spare, vz cmp, vz ovs]) f_PW_42 d_PW_run_58 hw_.2.2 rfl ?_
          obtain ⟨wk_o, onw_o, tkn_o, se__o, cle_o, stk_o, dp_o, fo_o, chn_o, hw_o, fy_o, stp_o, WK_o, ON_o, SK_o, sp0_o, q0_o, s0_o, SE_o, CL_o, ct_o, P_o, nk_o, hf_oneMind, hwk_o, honw_o, hse__o, hcle_o, hstk_o, pcsI_tkn_o, hon_o, hnt_o⟩ := pomI_f_oneMind
          have hnk_ : nk_o = 809 := by rcases hon_o with z | z <;> omega
          subst hnk_
          refine ab_callV (d' := d - 1) (as := [vR q, vR f_subject, vz hw, vz p, vR f_spans]) (st := []) (r := _) (z_OM_find (o := o240) (a := f_oneMind) (sp := f_spans) (wk := wk_o) (onw := onw_o) (tkn := tkn_o) (se_ := se__o) (cle := cle_o) (stk := stk_o) (dp := dp_o) (chn := chn_o) (hw := hw) (stp := stp_o) (SP := SP) (WK := WK_o) (ON := ON_o) (SK := SK_o) (q := q) (lq := lq) (ki := ki) (ne := ne) (ot := ot) (cnt := cnt) (fi := fi) (la := la) (ra := ra) (ru := ru) (gr := gr) (wi := wi) (sz := sz) (fl := fl) (ve := ve) (mi := mi2243) (na := na) (nl := nl) (K := K) (N := N) (O := O) (RR := RR) (nr := nr) (s := f_subject) (by_ := by_) (co := co) (re := re) (ho := ho) (n := n) (C := C) (Rs := Rs) (H := H) (mc := mc) (p := p) (sp0 := sp0_o) (q0 := q0_o) (s0 := s0_o) (hw0 := hw_o) (fy0 := fy_o) (fo0 := fo_o) hf_oneMind hf_spans hwk_o honw_o hstk_o hq hki hne hot hra hf_subject hco hre hho (by omega) hp hr (by omega) (by omega) hsu (by omega) hq250 (by omega) (by omega) jsp (by omega)) (fun oc G2 h => by rcases h with ⟨_, _, _, _, _, _, _, _, _, h, _⟩ | ⟨_, _, _, _, _, _, _, _, _, _, h, _⟩ <;> exact ⟨_, h⟩) (by omega) m_OM_find ml_PW_250 im_OM_find se_OM_find c_OM hf_oneMind.2.2 (Nat.le_of_ble_eq_true rfl) d_PW_run_61 rfl ?_
          intro v G323 hq
          rcases hq with ⟨dp2324, fo2325, ch2326, fy2327, st2328, SP2329, WK2330, ON2331, SK2332, hv, hfk, hlk, hsk, hNf_oneMind, hNf_spans, hNwk_o, hNonw_o, hNstk_o, hq333, hq334⟩ | ⟨dp2335, fo2336, ch2337, fy2338, st2339, SP2340, WK2341, ON2342, SK2343, r344, hv, hfk, hlk, hsk, hNf_oneMind, hNf_spans, hNwk_o, hNonw_o, hNstk_o, hq345, hq346, hq347, hq348, hq349, hq350⟩
          · cases hv
            have hw_ := hfk.get hw_ (by decide)
            have h17 := hfk.get h17 (by decide)
            have hq := hfk.get hq (by simp only [List.mem_cons, List.not_mem_nil, or_false]; omega)
            have hki := hfk.get hki (by simp only [List.mem_cons, List.not_mem_nil, or_false]; omega)
            have hne := hfk.get hne (by simp only [List.mem_cons, List.not_mem_nil, or_false]; omega)
            have hot := hfk.get hot (by simp only [List.mem_cons, List.not_mem_nil, or_false]; omega)
            have hra := hfk.get hra (by simp only [List.mem_cons, List.not_mem_nil, or_false]; omega)
            have hna := hfk.get hna (by simp only [List.mem_cons, List.not_mem_nil, or_false]; omega)
            have hnl := hfk.get hnl (by simp only [List.mem_cons, List.not_mem_nil, or_false]; omega)
            have hf_subject := hfk.get hf_subject (by decide)
            have hby_ := hfk.get hby_ (by decide)
            have hco := hfk.get hco (by decide)
            have hre := hfk.get hre (by decide)
            have hho := hfk.get hho (by decide)
            have hse__o := hfk.get hse__o (by decide)
            have hcle_o := hfk.get hcle_o (by decide)
            have pthI_f_threads := thI.fr hfk pthI_f_threads (by decide) (by decide) (by decide) (by decide) (by decide) (by decide) (by decide) (by decide)
            have pmkI_f_marks := mkI.fr hfk pmkI_f_marks (by decide) (by decide) (by decide) (by decide)
            have pstI_f_states := stI.fr hfk pstI_f_states (by decide) (by decide) (by decide) (by decide) (by decide) (by decide) (by decide) (by decide) (by decide)
            have pcsI_tkn_o := csI.fr hfk pcsI_tkn_o (by decide) (by decide)
            have hfr := hfr.tr hfk (by simp)
            have hq351 := hlk
            have hq352 := hsk
            have hf_oneMind := hNf_oneMind
            have hf_spans := hNf_spans
            have hwk_o := hNwk_o
            have honw_o := hNonw_o
            have hstk_o := hNstk_o
            change ab_W _ _ _ G323 64 [some (vR w_), some (vR q), some (vz hw), some (vz mch), some (vz p)] [vz (-1)] _
            have pomI_f_oneMind : omI o240 G323 f_oneMind on2241 nt2242 := ⟨wk_o, onw_o, tkn_o, se__o, cle_o, stk_o, dp2324, fo2325, ch2326, hw, fy2327, st2328, WK2330, ON2331, SK2332, vR f_spans, vR q, vR f_subject, SE_o, CL_o, ct_o, P_o, 809, hf_oneMind, hwk_o, honw_o, hse__o, hcle_o, hstk_o, pcsI_tkn_o, (Or.inr ⟨by omega, rfl⟩), (by omega)⟩
            have hmq_ : onq mi2243 on2241 := hq246
            have ppgB_q : pgB o240 G323 q lq nr cv cmp on2241 mi2243 := ⟨ki, ne, ot, cnt, fi, la, ra, ru, gr, wi, sz, fl, ve, na, nl, K, N, O, RR, NA, NL, hq, hki, hne, hot, hra, hna, hnl, (by omega), hpu, hp, hr, hch, (by omega), (by omega), (by omega), (by omega), (by omega), hq245, hmq_, (by omega), (by omega), jnl, hiv, hmn, jna, hla, hpv, (by omega)⟩
            have psuI_f_subject : suI o240 G323 f_subject n m f := ⟨by_, co, re, ho, C, Rs, H, mc, hf_subject, hby_, hco, hre, hho, (by omega), hsu⟩
            refine zz_iret rfl d_PW_run_64 ?_
            rw [hQ]; exact ⟨_, _, _, _, _, _, _, _, _, rfl, hfr, hf_spans, pthI_f_threads, pmkI_f_marks, pomI_f_oneMind, pstI_f_states, psuI_f_subject, ppgB_q, (by omega), (by omega), (by exact hq333), (by omega), (by omega), (by first | exact Or.inl rfl | exact hq249)⟩
          · cases hv
            have hw_ := hfk.get hw_ (by decide)
            have h17 := hfk.get h17 (by decide)
            have hq := hfk.get hq (by simp only [List.mem_cons, List.not_mem_nil, or_false]; omega)
            have hki := hfk.get hki (by simp only [List.mem_cons, List.not_mem_nil, or_false]; omega)
            have hne := hfk.get hne (by simp only [List.mem_cons, List.not_mem_nil, or_false]; omega)
            have hot := hfk.get hot (by simp only [List.mem_cons, List.not_mem_nil, or_false]; omega)
            have hra := hfk.get hra (by simp only [List.mem_cons, List.not_mem_nil, or_false]; omega)
            have hna := hfk.get hna (by simp only [List.mem_cons, List.not_mem_nil, or_false]; omega)
            have hnl := hfk.get hnl (by simp only [List.mem_cons, List.not_mem_nil, or_false]; omega)
            have hf_subject := hfk.get hf_subject (by decide)
            have hby_ := hfk.get hby_ (by decide)
            have hco := hfk.get hco (by decide)
            have hre := hfk.get hre (by decide)
            have hho := hfk.get hho (by decide)
            have hse__o := hfk.get hse__o (by decide)
            have hcle_o := hfk.get hcle_o (by decide)
            have pthI_f_threads := thI.fr hfk pthI_f_threads (by decide) (by decide) (by decide) (by decide) (by decide) (by decide) (by decide) (by decide)
            have pmkI_f_marks := mkI.fr hfk pmkI_f_marks (by decide) (by decide) (by decide) (by decide)
            have pstI_f_states := stI.fr hfk pstI_f_states (by decide) (by decide) (by decide) (by decide) (by decide) (by decide) (by decide) (by decide) (by decide)
            have pcsI_tkn_o := csI.fr hfk pcsI_tkn_o (by decide) (by decide)
            have hfr := hfr.tr hfk (by simp)
            have hq353 := hlk
            have hq354 := hsk
            have hf_oneMind := hNf_oneMind
            have hf_spans := hNf_spans
            have hwk_o := hNwk_o
            have honw_o := hNonw_o
            have hstk_o := hNstk_o
            change ab_W _ _ _ G323 64 [some (vR w_), some (vR q), some (vz hw), some (vz mch), some (vz p)] [vz r344] _
            have pomI_f_oneMind : omI o240 G323 f_oneMind on2241 nt2242 := ⟨wk_o, onw_o, tkn_o, se__o, cle_o, stk_o, dp2335, fo2336, ch2337, hw, fy2338, st2339, WK2341, ON2342, SK2343, vR f_spans, vR q, vR f_subject, SE_o, CL_o, ct_o, P_o, 809, hf_oneMind, hwk_o, honw_o, hse__o, hcle_o, hstk_o, pcsI_tkn_o, (Or.inr ⟨by omega, rfl⟩), (by omega)⟩
            have hmq_ : onq mi2243 on2241 := hq246
            have ppgB_q : pgB o240 G323 q lq nr cv cmp on2241 mi2243 := ⟨ki, ne, ot, cnt, fi, la, ra, ru, gr, wi, sz, fl, ve, na, nl, K, N, O, RR, NA, NL, hq, hki, hne, hot, hra, hna, hnl, (by omega), hpu, hp, hr, hch, (by omega), (by omega), (by omega), (by omega), (by omega), hq245, hmq_, (by omega), (by omega), jnl, hiv, hmn, jna, hla, hpv, (by omega)⟩
            have psuI_f_subject : suI o240 G323 f_subject n m f := ⟨by_, co, re, ho, C, Rs, H, mc, hf_subject, hby_, hco, hre, hho, (by omega), hsu⟩
            refine zz_iret rfl d_PW_run_64 ?_
            rw [hQ]; exact ⟨_, _, _, _, _, _, _, _, _, rfl, hfr, hf_spans, pthI_f_threads, pmkI_f_marks, pomI_f_oneMind, pstI_f_states, psuI_f_subject, ppgB_q, (by omega), (by omega), (by exact hq345), (by omega), (by omega), (by first | exact Or.inl rfl | exact hq249)⟩
  · refine ab_aload_n d_PW_run_5 rfl ?_
    refine ab_getf (fs := [vR f_ready, vR f_tape, vR f_reader, vR f_programs, vR f_subject, vR f_spans, vR f_threads, vR f_marks, vR f_oneMind, vR f_states, vR f_latest, vR f_matches, vR f_pieces, vR f_template, vR f_result, vR f_spare, vz cmp, vz ovs]) f_PW_48 d_PW_run_6 hw_.2.2 rfl ?_
    refine ab_aload_n d_PW_run_9 rfl ?_
    refine ab_aload_n d_PW_run_10 rfl ?_
    refine ab_getf (fs := [vR f_ready, vR f_tape, vR f_reader, vR f_programs, vR f_subject, vR f_spans, vR f_threads, vR f_marks, vR f_oneMind, vR f_states, vR f_latest, vR f_matches, vR f_pieces, vR f_template, vR f_result, vR f_spare, vz cmp, vz ovs]) f_PW_38 d_PW_run_11 hw_.2.2 rfl ?_
    refine ab_iload_n d_PW_run_14 rfl ?_
    refine ab_iload d_PW_run_15 rfl ?_
    refine ab_aload_n d_PW_run_17 rfl ?_
    refine ab_getf (fs := [vR f_ready, vR f_tape, vR f_reader, vR f_programs, vR f_subject, vR f_spans, vR f_threads, vR f_marks, vR f_oneMind, vR f_states, vR f_latest, vR f_matches, vR f_pieces, vR f_template, vR f_result, vR f_spare, vz cmp, vz ovs]) f_PW_42 d_PW_run_18 hw_.2.2 rfl ?_
    obtain ⟨wk_t, nw_t, tn_t, nsp_t, tsp_t, se_t, stk_t, nc_t, tc_t, sta_t, fo_t, hw_t, fy_t, stp_t, WK_t, NW_t, TN_t, NS_t, TS_t, SE_t, SK_t, l1_t, l2_t, l3_t, l4_t, sp0_t, q0_t, s0_t, hf_threads, hwk_t, hnw_t, htn_t, hnsp_t, htsp_t, hse_t, hstk_t, cl_t, jse_t, cst_t⟩ := pthI_f_threads
    refine ab_callV (d' := d - 1) (as := [vR q, vR f_subject, vz hw, vz p, vR f_spans]) (st := []) (r := _) (z_TH_find (o := o) (q := q) (lq := lq) (ki := ki) (ne := ne) (ot := ot) (cnt := cnt) (fi := fi) (la := la) (ra := ra) (ru := ru) (gr := gr) (wi := wi) (sz := sz) (fl := fl) (ve := ve) (mi := mi) (na := na) (nl := nl) (K := K) (N := N) (O := O) (RR := RR) (nr := nr) (s := f_subject) (by_ := by_) (co := co) (re := re) (ho := ho) (n := n) (C := C) (Rs := Rs) (H := H) (mc := mc) (a := f_threads) (sp := f_spans) (wk := wk_t) (nw := nw_t) (tn := tn_t) (nsp := nsp_t) (tsp := tsp_t) (se := se_t) (stk := stk_t) (nc := nc_t) (tc := tc_t) (sta := sta_t) (hw := hw) (stp := stp_t) (SP := SP) (WK := WK_t) (NW := NW_t) (TN := TN_t) (NS := NS_t) (TS := TS_t) (SE := SE_t) (SK := SK_t) (l1 := l1_t) (l2 := l2_t) (l3 := l3_t) (l4 := l4_t) (sp0 := sp0_t) (q0 := q0_t) (s0 := s0_t) (hw0 := hw_t) (fy0 := fy_t) (fo0 := fo_t) (p := p) hf_threads hf_spans hwk_t hnw_t htn_t hnsp_t htsp_t hse_t hstk_t hq hki hne hot hra hf_subject hco hre hho (by omega) hp hr (by omega) hsu (by omega) (by omega) (by omega) (by omega) (by omega) jse_t (by omega) jsp (by omega)) (fun oc G2 h => by rcases h with ⟨_, _, _, _, _, _, _, _, _, _, _, _, _, _, _, _, _, _, _, _, _, _, h, _⟩ | ⟨_, _, _, _, _, _, _, _, _, _, _, _, _, _, _, _, _, _, _, _, _, _, _, h, _⟩ <;> exact ⟨_, h⟩) (by omega) m_TH_find ml_PW_243 im_TH_find se_TH_find c_TH hf_threads.2.2 (Nat.le_of_ble_eq_true rfl) d_PW_run_21 rfl ?_
    intro v G355 hq
    rcases hq with ⟨nw2356, tn2357, nsp2358, tsp2359, m1360, m2_361, m3362, m4363, nc2364, tc2365, sta2366, fo2367, fy2368, st2369, NW2370, TN2371, NS2372, TS2373, SE2374, SK2375, WK2376, SP2377, hv, hfk, hlk, hsk, hNf_threads, hNf_spans, hNwk_t, hNnw2356, hNtn2357, hNnsp2358, hNtsp2359, hNse_t, hNstk_t, hq378, hq379, hq380, hq381, hq382⟩ | ⟨nw2383, tn2384, nsp2385, tsp2386, m1387, m2_388, m3389, m4390, nc2391, tc2392, sta2393, fo2394, fy2395, st2396, NW2397, TN2398, NS2399, TS2400, SE2401, SK2402, WK2403, SP2404, r405, hv, hfk, hlk, hsk, hNf_threads, hNf_spans, hNwk_t, hNnw2383, hNtn2384, hNnsp2385, hNtsp2386, hNse_t, hNstk_t, hq406, hq407, hq408, hq409, hq410, hq411, hq412, hq413, hq414⟩
    · cases hv
      have hw_ := hfk.get hw_ (by decide)
      have h17 := hfk.get h17 (by decide)
      have hq := hfk.get hq (by simp only [List.mem_cons, List.not_mem_nil, or_false]; omega)
      have hki := hfk.get hki (by simp only [List.mem_cons, List.not_mem_nil, or_false]; omega)
      have hne := hfk.get hne (by simp only [List.mem_cons, List.not_mem_nil, or_false]; omega)
      have hot := hfk.get hot (by simp only [List.mem_cons, List.not_mem_nil, or_false]; omega)
      have hra := hfk.get hra (by simp only [List.mem_cons, List.not_mem_nil, or_false]; omega)
      have hna := hfk.get hna (by simp only [List.mem_cons, List.not_mem_nil, or_false]; omega)
      have hnl := hfk.get hnl (by simp only [List.mem_cons, List.not_mem_nil, or_false]; omega)
      have hf_subject := hfk.get hf_subject (by decide)
      have hby_ := hfk.get hby_ (by decide)
      have hco := hfk.get hco (by decide)
      have hre := hfk.get hre (by decide)
      have hho := hfk.get hho (by decide)
      have pmkI_f_marks := mkI.fr hfk pmkI_f_marks (by decide) (by decide) (by decide) (by decide)
      have pomI_f_oneMind := omI.fr hfk pomI_f_oneMind (by decide) (by decide) (by decide) (by decide) (by decide) (by decide) (by decide) (by decide)
      have pstI_f_states := stI.fr hfk pstI_f_states (by decide) (by decide) (by decide) (by decide) (by decide) (by decide) (by decide) (by decide) (by decide)
      have hfr := hfr.tr hfk (by simp)
      have hq415 := hlk
      have hq416 := hsk
      have hf_threads := hNf_threads
      have hf_spans := hNf_spans
      have hwk_t := hNwk_t
      have hnw2356 := hNnw2356
      have htn2357 := hNtn2357
      have hnsp2358 := hNnsp2358
      have htsp2359 := hNtsp2359
      have hse_t := hNse_t
      have hstk_t := hNstk_t
      change ab_W _ _ _ G355 24 [some (vR w_), some (vR q), some (vz hw), some (vz mch), some (vz p)] [vz (-1)] _
      have pthI_f_threads : thI o G355 f_threads := ⟨wk_t, nw2356, tn2357, nsp2358, tsp2359, se_t, stk_t, nc2364, tc2365, sta2366, fo2367, hw, fy2368, st2369, WK2376, NW2370, TN2371, NS2372, TS2373, SE2374, SK2375, m1360, m2_361, m3362, m4363, vR f_spans, vR q, vR f_subject, hf_threads, hwk_t, hnw2356, htn2357, hnsp2358, htsp2359, hse_t, hstk_t, (by omega), hq381, (by omega)⟩
      have hmq_ : onq mi on := hmi
      have ppgB_q : pgB o G355 q lq nr cv cmp on mi := ⟨ki, ne, ot, cnt, fi, la, ra, ru, gr, wi, sz, fl, ve, na, nl, K, N, O, RR, NA, NL, hq, hki, hne, hot, hra, hna, hnl, (by omega), hpu, hp, hr, hch, (by omega), (by omega), (by omega), (by omega), (by omega), hpo, hmq_, (by omega), (by omega), jnl, hiv, hmn, jna, hla, hpv, (by omega)⟩
      have psuI_f_subject : suI o G355 f_subject n m f := ⟨by_, co, re, ho, C, Rs, H, mc, hf_subject, hby_, hco, hre, hho, (by omega), hsu⟩
      refine zz_iret rfl d_PW_run_24 ?_
      rw [hQ]; exact ⟨_, _, _, _, _, _, _, _, _, rfl, hfr, hf_spans, pthI_f_threads, pmkI_f_marks, pomI_f_oneMind, pstI_f_states, psuI_f_subject, ppgB_q, (by omega), (by omega), (by exact hq380), (by omega), (by omega), (by first | exact Or.inl rfl | exact Or.inl rfl)⟩
    · cases hv
      have hw_ := hfk.get hw_ (by decide)
      have h17 := hfk.get h17 (by decide)
      have hq := hfk.get hq (by simp only [List.mem_cons, List.not_mem_nil, or_false]; omega)
      have hki := hfk.get hki (by simp only [List.mem_cons, List.not_mem_nil, or_false]; omega)
      have hne := hfk.get hne (by simp only [List.mem_cons, List.not_mem_nil, or_false]; omega)
      have hot := hfk.get hot (by simp only [List.mem_cons, List.not_mem_nil, or_false]; omega)
      have hra := hfk.get hra (by simp only [List.mem_cons, List.not_mem_nil, or_false]; omega)
      have hna := hfk.get hna (by simp only [List.mem_cons, List.not_mem_nil, or_false]; omega)
      have hnl := hfk.get hnl (by simp only [List.mem_cons, List.not_mem_nil, or_false]; omega)
      have hf_subject := hfk.get hf_subject (by decide)
      have hby_ := hfk.get hby_ (by decide)
      have hco := hfk.get hco (by decide)
      have hre := hfk.get hre (by decide)
      have hho := hfk.get hho (by decide)
      have pmkI_f_marks := mkI.fr hfk pmkI_f_marks (by decide) (by decide) (by decide) (by decide)
      have pomI_f_oneMind := omI.fr hfk pomI_f_oneMind (by decide) (by decide) (by decide) (by decide) (by decide) (by decide) (by decide) (by decide)
      have pstI_f_states := stI.fr hfk pstI_f_states (by decide) (by decide) (by decide) (by decide) (by decide) (by decide) (by decide) (by decide) (by decide)
      have hfr := hfr.tr hfk (by simp)
      have hq417 := hlk
      have hq418 := hsk
      have hf_threads := hNf_threads
      have hf_spans := hNf_spans
      have hwk_t := hNwk_t
      have hnw2383 := hNnw2383
      have htn2384 := hNtn2384
      have hnsp2385 := hNnsp2385
      have htsp2386 := hNtsp2386
      have hse_t := hNse_t
      have hstk_t := hNstk_t
      change ab_W _ _ _ G355 24 [some (vR w_), some (vR q), some (vz hw), some (vz mch), some (vz p)] [vz r405] _
      have pthI_f_threads : thI o G355 f_threads := ⟨wk_t, nw2383, tn2384, nsp2385, tsp2386, se_t, stk_t, nc2391, tc2392, sta2393, fo2394, hw, fy2395, st2396, WK2403, NW2397, TN2398, NS2399, TS2400, SE2401, SK2402, m1387, m2_388, m3389, m4390, vR f_spans, vR q, vR f_subject, hf_threads, hwk_t, hnw2383, htn2384, hnsp2385, htsp2386, hse_t, hstk_t, (by omega), hq409, (by omega)⟩
      have hmq_ : onq mi on := hmi
      have ppgB_q : pgB o G355 q lq nr cv cmp on mi := ⟨ki, ne, ot, cnt, fi, la, ra, ru, gr, wi, sz, fl, ve, na, nl, K, N, O, RR, NA, NL, hq, hki, hne, hot, hra, hna, hnl, (by omega), hpu, hp, hr, hch, (by omega), (by omega), (by omega), (by omega), (by omega), hpo, hmq_, (by omega), (by omega), jnl, hiv, hmn, jna, hla, hpv, (by omega)⟩
      have psuI_f_subject : suI o G355 f_subject n m f := ⟨by_, co, re, ho, C, Rs, H, mc, hf_subject, hby_, hco, hre, hho, (by omega), hsu⟩
      refine zz_iret rfl d_PW_run_24 ?_
      rw [hQ]; exact ⟨_, _, _, _, _, _, _, _, _, rfl, hfr, hf_spans, pthI_f_threads, pmkI_f_marks, pomI_f_oneMind, pstI_f_states, psuI_f_subject, ppgB_q, (by omega), (by omega), (by exact hq408), (by omega), (by omega), (by first | exact Or.inl rfl | exact Or.inl rfl)⟩
set_option maxRecDepth 100000 in
set_option maxHeartbeats 4000000 in
theorem z_PW_settle {X : ab_X} {d : Nat} {o : Nat → Nat} {G : ab_G} {w_ : Nat} {f_ready : Nat} {f_tape : Nat} {f_reader : Nat} {f_programs : Nat} {f_subject : Nat} {f_spans : Nat} {f_threads : Nat} {f_marks : Nat} {f_oneMind : Nat} {f_states : Nat} {f_latest : Nat} {f_matches : Nat} {f_pieces : Nat} {f_template : Nat} {f_result : Nat} {f_spare : Nat} {cmp : Int} {ovs : Int} {sb : Int} {cv : Int → Int} {on : Nat} {nm : Nat} {ns : Nat} {nt : Nat} {n : Int} {m : Nat} {f : Int → Int} {z1 : Int} {z2 : Int} (hw_ : cc o G w_ 18 (ab_ob 0 [vR f_ready, vR f_tape, vR f_reader, vR f_programs, vR f_subject, vR f_spans, vR f_threads, vR f_marks, vR f_oneMind, vR f_states, vR f_latest, vR f_matches, vR f_pieces, vR f_template, vR f_result, vR f_spare, vz cmp, vz ovs])) (pthI_f_threads : thI o G f_threads) (pmkI_f_marks : mkI o G f_marks nm ns) (pomI_f_oneMind : omI o G f_oneMind on nt) (pstI_f_states : stI o G f_states cv cmp sb) (psuI_f_subject : suI o G f_subject n m f) (n18 : ab_n0 = 18) (cz : 0 ≤ z1 ∧ z1 ≤ 100000 ∧ 0 ≤ z2 ∧ z2 ≤ 100000) (hd : 1 ≤ d) : ab_F X d y_PW_settle (.code y_PW_settle b_PW_settle 7 none) [vR w_, vz z1, vz z2] G (fun oc G2 => ∃ ov2 : Int, oc = .returned none ∧ fx o o [18, 32, 44, 50, 60] G G2 ∧ G2.length = G.length ∧ ab_slots G2 = ab_slots G ∧ cc o G2 w_ 18 (ab_ob 0 [vR f_ready, vR f_tape, vR f_reader, vR f_programs, vR f_subject, vR f_spans, vR f_threads, vR f_marks, vR f_oneMind, vR f_states, vR f_latest, vR f_matches, vR f_pieces, vR f_template, vR f_result, vR f_spare, vz cmp, vz ov2]) ∧ thI o G2 f_threads ∧ mkI o G2 f_marks nm ns ∧ omI o G2 f_oneMind on nt ∧ stI o G2 f_states cv cmp sb ∧ suI o G2 f_subject n m f) := by
  refine ab_F_of (by decide +kernel) (Nat.le_of_ble_eq_true rfl) ?_
  obtain ⟨Q, hQ⟩ : ∃ z : Outcome → ab_G → Prop, z = (fun oc G2 => ∃ ov2 : Int, oc = .returned none ∧ fx o o [18, 32, 44, 50, 60] G G2 ∧ G2.length = G.length ∧ ab_slots G2 = ab_slots G ∧ cc o G2 w_ 18 (ab_ob 0 [vR f_ready, vR f_tape, vR f_reader, vR f_programs, vR f_subject, vR f_spans, vR f_threads, vR f_marks, vR f_oneMind, vR f_states, vR f_latest, vR f_matches, vR f_pieces, vR f_template, vR f_result, vR f_spare, vz cmp, vz ov2]) ∧ thI o G2 f_threads ∧ mkI o G2 f_marks nm ns ∧ omI o G2 f_oneMind on nt ∧ stI o G2 f_states cv cmp sb ∧ suI o G2 f_subject n m f) := ⟨_, rfl⟩
  rw [← hQ]
  change ab_W X (ab_pl y_PW_settle b_PW_settle 7 none) d G 0 [some (vR w_), some (vz z1), some (vz z2), none, none, none, none] [] Q
  have hfr : fx o o [18, 32, 44, 50, 60] G G := fx.rf
  have hlen : G.length = G.length := rfl
  have hsl : ab_slots G = ab_slots G := rfl
  obtain ⟨by_, co, re, ho, C, Rs, H, mc, hf_subject, hby_, hco, hre, hho, csu, hsu⟩ := psuI_f_subject
  obtain ⟨wk_t, nw_t, tn_t, nsp_t, tsp_t, se_t, stk_t, nc_t, tc_t, sta_t, fo_t, hw_t, fy_t, stp_t, WK_t, NW_t, TN_t, NS_t, TS_t, SE_t, SK_t, l1_t, l2_t, l3_t, l4_t, sp0_t, q0_t, s0_t, hf_threads, hwk_t, hnw_t, htn_t, hnsp_t, htsp_t, hse_t, hstk_t, cl_t, jse_t, cst_t⟩ := pthI_f_threads
  obtain ⟨wk_k, mk_k, stk_k, w_k, df_k, dp_k, fo_k, fy_k, hw_k, stp_k, WK_k, M_k, SK_k, sp0_k, q0_k, s0_k, hf_marks, hwk_k, hmk_k, hstk_k, cn_k, hst_k, cfo_k⟩ := pmkI_f_marks
  obtain ⟨wk_o, onw_o, tkn_o, se__o, cle_o, stk_o, dp_o, fo_o, chn_o, hw_o, fy_o, stp_o, WK_o, ON_o, SK_o, sp0_o, q0_o, s0_o, SE_o, CL_o, ct_o, P_o, nk_o, hf_oneMind, hwk_o, honw_o, hse__o, hcle_o, hstk_o, pcsI_tkn_o, hon_o, hnt_o⟩ := pomI_f_oneMind
  obtain ⟨cu_s, eg_s, po_s, bg_s, bd_s, sd_s, se__s, stk_s, mst_s, q0_s, vr_s, ro_s, cn_s, ct_s, sc_s, sta_s, arv_s, stp_s, CU_s, EG_s, PO_s, BG_s, BD_s, SD_s, SE_s, SK_s, hf_states, hcu_s, heg_s, hpo_s, hbg_s, hbd_s, hsd_s, hse__s, hstk_s, jcu_s, ccn_s, cms_s, cvr_s, jbg_s, jpo_s, jbd_s, jeg_s, cro_s, jse_s, csb_s, jsq_s⟩ := pstI_f_states
  refine zz_ldc2 400 d_PW_settle_0 cn_PW_253 ?_
  refine ab_iload_n d_PW_settle_3 rfl ?_
  refine zz_bipush d_PW_settle_4 (by decide) ?_
  refine zz_iadd d_PW_settle_6 ?_
  refine zz_i2l d_PW_settle_7 (by omega) ?_
  refine zz_lmul d_PW_settle_8 ?_
  refine ab_aload_n d_PW_settle_9 rfl ?_
  refine ab_getf (fs := [vR f_ready, vR f_tape, vR f_reader, vR f_programs, vR f_subject, vR f_spans, vR f_threads, vR f_marks, vR f_oneMind, vR f_states, vR f_latest, vR f_matches, vR f_pieces, vR f_template, vR f_result, vR f_spare, vz cmp, vz ovs]) f_PW_38 d_PW_settle_10 hw_.2.2 rfl ?_
  refine ab_getf (fs := [vR by_, vR co, vR re, vR ho, vz n]) f_PW_164 d_PW_settle_13 hf_subject.2.2 rfl ?_
  refine zz_bipush d_PW_settle_16 (by decide) ?_
  refine zz_iadd d_PW_settle_18 ?_
  refine zz_i2l d_PW_settle_19 (by omega) ?_
  refine zz_lmul d_PW_settle_20 ?_
  refine ab_iload_n d_PW_settle_21 rfl ?_
  refine zz_iconst d_PW_settle_22 ?_
  refine zz_iadd d_PW_settle_23 ?_
  refine zz_i2l d_PW_settle_24 (by omega) ?_
  refine zz_lmul d_PW_settle_25 ?_
  refine ab_lstore_n d_PW_settle_26 (Nat.le_of_ble_eq_true rfl) (Nat.le_of_ble_eq_true rfl) rfl ?_
  change ab_W _ _ _ G 27 [some (vR w_), some (vz z1), some (vz z2), some (vj (((400 * (z1 + 20)) * (n + 20)) * (z2 + 1))), none, none, none] [] _
  refine ab_aload_n d_PW_settle_27 rfl ?_
  refine ab_getf (fs := [vR f_ready, vR f_tape, vR f_reader, vR f_programs, vR f_subject, vR f_spans, vR f_threads, vR f_marks, vR f_oneMind, vR f_states, vR f_latest, vR f_matches, vR f_pieces, vR f_template, vR f_result, vR f_spare, vz cmp, vz ovs]) f_PW_48 d_PW_settle_28 hw_.2.2 rfl ?_
  refine ab_getf (fs := [sp0_t, vR wk_t, vR nw_t, vR tn_t, vR nsp_t, vR tsp_t, vz nc_t, vz tc_t, vR se_t, vz sta_t, vR stk_t, vz fo_t, q0_t, s0_t, vz hw_t, vz fy_t, vj stp_t]) f_PW_255 d_PW_settle_31 hf_threads.2.2 rfl ?_
  refine ab_aload_n d_PW_settle_34 rfl ?_
  refine ab_getf (fs := [vR f_ready, vR f_tape, vR f_reader, vR f_programs, vR f_subject, vR f_spans, vR f_threads, vR f_marks, vR f_oneMind, vR f_states, vR f_latest, vR f_matches, vR f_pieces, vR f_template, vR f_result, vR f_spare, vz cmp, vz ovs]) f_PW_55 d_PW_settle_35 hw_.2.2 rfl ?_
  refine ab_getf (fs := [sp0_k, vR wk_k, vR mk_k, vz w_k, vz df_k, vR stk_k, vz dp_k, vz fo_k, vz fy_k, vz hw_k, q0_k, s0_k, vj stp_k]) f_PW_259 d_PW_settle_38 hf_marks.2.2 rfl ?_
  refine zz_ladd d_PW_settle_41 ?_
  refine ab_aload_n d_PW_settle_42 rfl ?_
  refine ab_getf (fs := [vR f_ready, vR f_tape, vR f_reader, vR f_programs, vR f_subject, vR f_spans, vR f_threads, vR f_marks, vR f_oneMind, vR f_states, vR f_latest, vR f_matches, vR f_pieces, vR f_template, vR f_result, vR f_spare, vz cmp, vz ovs]) f_PW_62 d_PW_settle_43 hw_.2.2 rfl ?_
  refine ab_getf (fs := [sp0_o, vR wk_o, vR onw_o, vR tkn_o, vR se__o, vR cle_o, vR stk_o, vz dp_o, vz fo_o, vz chn_o, q0_o, s0_o, vz hw_o, vz fy_o, vj stp_o]) f_PW_260 d_PW_settle_46 hf_oneMind.2.2 rfl ?_
  refine zz_ladd d_PW_settle_49 ?_
  refine ab_aload_n d_PW_settle_50 rfl ?_
  refine ab_getf (fs := [vR f_ready, vR f_tape, vR f_reader, vR f_programs, vR f_subject, vR f_spans, vR f_threads, vR f_marks, vR f_oneMind, vR f_states, vR f_latest, vR f_matches, vR f_pieces, vR f_template, vR f_result, vR f_spare, vz cmp, vz ovs]) f_PW_69 d_PW_settle_51 hw_.2.2 rfl ?_
  refine ab_getf (fs := [vz mst_s, q0_s, vz vr_s, vz ro_s, vR cu_s, vz cn_s, vR eg_s, vR po_s, vR bg_s, vR bd_s, vz ct_s, vR sd_s, vz sc_s, vR se__s, vz sta_s, vR stk_s, vz arv_s, vj stp_s]) f_PW_261 d_PW_settle_54 hf_states.2.2 rfl ?_
  refine zz_ladd d_PW_settle_57 ?_
  refine ab_lstore d_PW_settle_58 (Nat.le_of_ble_eq_true rfl) (Nat.le_of_ble_eq_true rfl) rfl ?_
  change ab_W _ _ _ G 60 [some (vR w_), some (vz z1), some (vz z2), some (vj (((400 * (z1 + 20)) * (n + 20)) * (z2 + 1))), none, some (vj (((stp_t + stp_k) + stp_o) + stp_s)), none] [] _
  refine ab_lload d_PW_settle_60 rfl ?_
  refine ab_lload_n d_PW_settle_62 rfl ?_
  refine zz_lcmpA d_PW_settle_63 (fun v1 hv1 => ?_)
  refine zz_if_le (tgt := 77) d_PW_settle_64 (by decide) (by omega) (fun c2 => ?_) (fun c2 => ?_)
  · refine ab_aload_n d_PW_settle_77 rfl ?_
    refine ab_getf (fs := [vR f_ready, vR f_tape, vR f_reader, vR f_programs, vR f_subject, vR f_spans, vR f_threads, vR f_marks, vR f_oneMind, vR f_states, vR f_latest, vR f_matches, vR f_pieces, vR f_template, vR f_result, vR f_spare, vz cmp, vz ovs]) f_PW_48 d_PW_settle_78 hw_.2.2 rfl ?_
    refine zz_lconst d_PW_settle_81 ?_
    change ab_W _ _ _ G 82 [some (vR w_), some (vz z1), some (vz z2), some (vj (((400 * (z1 + 20)) * (n + 20)) * (z2 + 1))), none, some (vj (((stp_t + stp_k) + stp_o) + stp_s)), none] [vj 0, vR f_threads] _
    refine ab_putf (fs := [sp0_t, vR wk_t, vR nw_t, vR tn_t, vR nsp_t, vR tsp_t, vz nc_t, vz tc_t, vR se_t, vz sta_t, vR stk_t, vz fo_t, q0_t, s0_t, vz hw_t, vz fy_t, vj stp_t]) f_PW_255 (Or.inl rfl) d_PW_settle_82 hf_threads.2.2 (Nat.le_of_ble_eq_true rfl) (fun _ => ⟨rfl, rfl⟩) (hf_threads.2.1 (by decide)) ?_
    obtain ⟨G3, eG3⟩ : ∃ z : ab_G, z = List.set G f_threads (ab_ob 11 [sp0_t, vR wk_t, vR nw_t, vR tn_t, vR nsp_t, vR tsp_t, vz nc_t, vz tc_t, vR se_t, vz sta_t, vR stk_t, vz fo_t, q0_t, s0_t, vz hw_t, vz fy_t, vj 0]) := ⟨_, rfl⟩
    have hw_ := hw_.keep hf_threads eG3 (by decide)
    have hf_subject := hf_subject.keep hf_threads eG3 (by decide)
    have hby_ := hby_.keep hf_threads eG3 (by decide)
    have hco := hco.keep hf_threads eG3 (by decide)
    have hre := hre.keep hf_threads eG3 (by decide)
    have hho := hho.keep hf_threads eG3 (by decide)
    have hwk_t := hwk_t.keep hf_threads eG3 (by decide)
    have hnw_t := hnw_t.keep hf_threads eG3 (by omega)
    have htn_t := htn_t.keep hf_threads eG3 (by omega)
    have hnsp_t := hnsp_t.keep hf_threads eG3 (by omega)
    have htsp_t := htsp_t.keep hf_threads eG3 (by omega)
    have hse_t := hse_t.keep hf_threads eG3 (by decide)
    have hstk_t := hstk_t.keep hf_threads eG3 (by decide)
    have hf_marks := hf_marks.keep hf_threads eG3 (by decide)
    have hwk_k := hwk_k.keep hf_threads eG3 (by decide)
    have hmk_k := hmk_k.keep hf_threads eG3 (by decide)
    have hstk_k := hstk_k.keep hf_threads eG3 (by decide)
    have hf_oneMind := hf_oneMind.keep hf_threads eG3 (by decide)
    have hwk_o := hwk_o.keep hf_threads eG3 (by decide)
    have honw_o := honw_o.keep hf_threads eG3 (by decide)
    have hse__o := hse__o.keep hf_threads eG3 (by decide)
    have hcle_o := hcle_o.keep hf_threads eG3 (by decide)
    have hstk_o := hstk_o.keep hf_threads eG3 (by decide)
    have hf_states := hf_states.keep hf_threads eG3 (by decide)
    have hcu_s := hcu_s.keep hf_threads eG3 (by decide)
    have heg_s := heg_s.keep hf_threads eG3 (by decide)
    have hpo_s := hpo_s.keep hf_threads eG3 (by decide)
    have hbg_s := hbg_s.keep hf_threads eG3 (by decide)
    have hbd_s := hbd_s.keep hf_threads eG3 (by decide)
    have hsd_s := hsd_s.keep hf_threads eG3 (by decide)
    have hse__s := hse__s.keep hf_threads eG3 (by decide)
    have hstk_s := hstk_s.keep hf_threads eG3 (by decide)
    have hst := (fx.rf (o := o) (S := [32]) (G := G)).wr hf_threads eG3 (List.mem_singleton.mpr rfl)
    have pcsI_tkn_o := csI.fr hst pcsI_tkn_o (by decide) (by decide)
    have hlen := (z_len eG3).trans hlen
    have hsl := (z_sl hf_threads eG3 rfl).trans hsl
    have hfr := hfr.wr hf_threads eG3 (by decide)
    have hf_threads := hf_threads.kept eG3
    change ab_W _ _ _ (List.set G f_threads (ab_ob 11 [sp0_t, vR wk_t, vR nw_t, vR tn_t, vR nsp_t, vR tsp_t, vz nc_t, vz tc_t, vR se_t, vz sta_t, vR stk_t, vz fo_t, q0_t, s0_t, vz hw_t, vz fy_t, vj 0])) 85 [some (vR w_), some (vz z1), some (vz z2), some (vj (((400 * (z1 + 20)) * (n + 20)) * (z2 + 1))), none, some (vj (((stp_t + stp_k) + stp_o) + stp_s)), none] [] _
    rw [← eG3]
    refine ab_aload_n d_PW_settle_85 rfl ?_
    refine ab_getf (fs := [vR f_ready, vR f_tape, vR f_reader, vR f_programs, vR f_subject, vR f_spans, vR f_threads, vR f_marks, vR f_oneMind, vR f_states, vR f_latest, vR f_matches, vR f_pieces, vR f_template, vR f_result, vR f_spare, vz cmp, vz ovs]) f_PW_55 d_PW_settle_86 hw_.2.2 rfl ?_
    refine zz_lconst d_PW_settle_89 ?_
    change ab_W _ _ _ G3 90 [some (vR w_), some (vz z1), some (vz z2), some (vj (((400 * (z1 + 20)) * (n + 20)) * (z2 + 1))), none, some (vj (((stp_t + stp_k) + stp_o) + stp_s)), none] [vj 0, vR f_marks] _
    refine ab_putf (fs := [sp0_k, vR wk_k, vR mk_k, vz w_k, vz df_k, vR stk_k, vz dp_k, vz fo_k, vz fy_k, vz hw_k, q0_k, s0_k, vj stp_k]) f_PW_259 (Or.inl rfl) d_PW_settle_90 hf_marks.2.2 (Nat.le_of_ble_eq_true rfl) (fun _ => ⟨rfl, rfl⟩) (hf_marks.2.1 (by decide)) ?_
    obtain ⟨G4, eG4⟩ : ∃ z : ab_G, z = List.set G3 f_marks (ab_ob 2 [sp0_k, vR wk_k, vR mk_k, vz w_k, vz df_k, vR stk_k, vz dp_k, vz fo_k, vz fy_k, vz hw_k, q0_k, s0_k, vj 0]) := ⟨_, rfl⟩
    have hw_ := hw_.keep hf_marks eG4 (by decide)
    have hf_subject := hf_subject.keep hf_marks eG4 (by decide)
    have hby_ := hby_.keep hf_marks eG4 (by decide)
    have hco := hco.keep hf_marks eG4 (by decide)
    have hre := hre.keep hf_marks eG4 (by decide)
    have hho := hho.keep hf_marks eG4 (by decide)
    have hf_threads := hf_threads.keep hf_marks eG4 (by decide)
    have hwk_t := hwk_t.keep hf_marks eG4 (by decide)
    have hnw_t := hnw_t.keep hf_marks eG4 (by omega)
    have htn_t := htn_t.keep hf_marks eG4 (by omega)
    have hnsp_t := hnsp_t.keep hf_marks eG4 (by omega)
    have htsp_t := htsp_t.keep hf_marks eG4 (by omega)
    have hse_t := hse_t.keep hf_marks eG4 (by decide)
    have hstk_t := hstk_t.keep hf_marks eG4 (by decide)
    have hwk_k := hwk_k.keep hf_marks eG4 (by decide)
    have hmk_k := hmk_k.keep hf_marks eG4 (by decide)
    have hstk_k := hstk_k.keep hf_marks eG4 (by decide)
    have hf_oneMind := hf_oneMind.keep hf_marks eG4 (by decide)
    have hwk_o := hwk_o.keep hf_marks eG4 (by decide)
    have honw_o := honw_o.keep hf_marks eG4 (by decide)
    have hse__o := hse__o.keep hf_marks eG4 (by decide)
    have hcle_o := hcle_o.keep hf_marks eG4 (by decide)
    have hstk_o := hstk_o.keep hf_marks eG4 (by decide)
    have hf_states := hf_states.keep hf_marks eG4 (by decide)
    have hcu_s := hcu_s.keep hf_marks eG4 (by decide)
    have heg_s := heg_s.keep hf_marks eG4 (by decide)
    have hpo_s := hpo_s.keep hf_marks eG4 (by decide)
    have hbg_s := hbg_s.keep hf_marks eG4 (by decide)
    have hbd_s := hbd_s.keep hf_marks eG4 (by decide)
    have hsd_s := hsd_s.keep hf_marks eG4 (by decide)
    have hse__s := hse__s.keep hf_marks eG4 (by decide)
    have hstk_s := hstk_s.keep hf_marks eG4 (by decide)
    have hst := (fx.rf (o := o) (S := [44]) (G := G3)).wr hf_marks eG4 (List.mem_singleton.mpr rfl)
    have pcsI_tkn_o := csI.fr hst pcsI_tkn_o (by decide) (by decide)
    have hlen := (z_len eG4).trans hlen
    have hsl := (z_sl hf_marks eG4 rfl).trans hsl
    have hfr := hfr.wr hf_marks eG4 (by decide)
    have hf_marks := hf_marks.kept eG4
    change ab_W _ _ _ (List.set G3 f_marks (ab_ob 2 [sp0_k, vR wk_k, vR mk_k, vz w_k, vz df_k, vR stk_k, vz dp_k, vz fo_k, vz fy_k, vz hw_k, q0_k, s0_k, vj 0])) 93 [some (vR w_), some (vz z1), some (vz z2), some (vj (((400 * (z1 + 20)) * (n + 20)) * (z2 + 1))), none, some (vj (((stp_t + stp_k) + stp_o) + stp_s)), none] [] _
    rw [← eG4]
    refine ab_aload_n d_PW_settle_93 rfl ?_
    refine ab_getf (fs := [vR f_ready, vR f_tape, vR f_reader, vR f_programs, vR f_subject, vR f_spans, vR f_threads, vR f_marks, vR f_oneMind, vR f_states, vR f_latest, vR f_matches, vR f_pieces, vR f_template, vR f_result, vR f_spare, vz cmp, vz ovs]) f_PW_62 d_PW_settle_94 hw_.2.2 rfl ?_
    refine zz_lconst d_PW_settle_97 ?_
    change ab_W _ _ _ G4 98 [some (vR w_), some (vz z1), some (vz z2), some (vj (((400 * (z1 + 20)) * (n + 20)) * (z2 + 1))), none, some (vj (((stp_t + stp_k) + stp_o) + stp_s)), none] [vj 0, vR f_oneMind] _
    refine ab_putf (fs := [sp0_o, vR wk_o, vR onw_o, vR tkn_o, vR se__o, vR cle_o, vR stk_o, vz dp_o, vz fo_o, vz chn_o, q0_o, s0_o, vz hw_o, vz fy_o, vj stp_o]) f_PW_260 (Or.inl rfl) d_PW_settle_98 hf_oneMind.2.2 (Nat.le_of_ble_eq_true rfl) (fun _ => ⟨rfl, rfl⟩) (hf_oneMind.2.1 (by decide)) ?_
    obtain ⟨G5, eG5⟩ : ∃ z : ab_G, z = List.set G4 f_oneMind (ab_ob 3 [sp0_o, vR wk_o, vR onw_o, vR tkn_o, vR se__o, vR cle_o, vR stk_o, vz dp_o, vz fo_o, vz chn_o, q0_o, s0_o, vz hw_o, vz fy_o, vj 0]) := ⟨_, rfl⟩
    have hw_ := hw_.keep hf_oneMind eG5 (by decide)
    have hf_subject := hf_subject.keep hf_oneMind eG5 (by decide)
    have hby_ := hby_.keep hf_oneMind eG5 (by decide)
    have hco := hco.keep hf_oneMind eG5 (by decide)
    have hre := hre.keep hf_oneMind eG5 (by decide)
    have hho := hho.keep hf_oneMind eG5 (by decide)
    have hf_threads := hf_threads.keep hf_oneMind eG5 (by decide)
    have hwk_t := hwk_t.keep hf_oneMind eG5 (by decide)
    have hnw_t := hnw_t.keep hf_oneMind eG5 (by omega)
    have htn_t := htn_t.keep hf_oneMind eG5 (by omega)
    have hnsp_t := hnsp_t.keep hf_oneMind eG5 (by omega)
    have htsp_t := htsp_t.keep hf_oneMind eG5 (by omega)
    have hse_t := hse_t.keep hf_oneMind eG5 (by decide)
    have hstk_t := hstk_t.keep hf_oneMind eG5 (by decide)
    have hf_marks := hf_marks.keep hf_oneMind eG5 (by decide)
    have hwk_k := hwk_k.keep hf_oneMind eG5 (by decide)
    have hmk_k := hmk_k.keep hf_oneMind eG5 (by decide)
    have hstk_k := hstk_k.keep hf_oneMind eG5 (by decide)
    have hwk_o := hwk_o.keep hf_oneMind eG5 (by decide)
    have honw_o := honw_o.keep hf_oneMind eG5 (by decide)
    have hse__o := hse__o.keep hf_oneMind eG5 (by decide)
    have hcle_o := hcle_o.keep hf_oneMind eG5 (by decide)
    have hstk_o := hstk_o.keep hf_oneMind eG5 (by decide)
    have hf_states := hf_states.keep hf_oneMind eG5 (by decide)
    have hcu_s := hcu_s.keep hf_oneMind eG5 (by decide)
    have heg_s := heg_s.keep hf_oneMind eG5 (by decide)
    have hpo_s := hpo_s.keep hf_oneMind eG5 (by decide)
    have hbg_s := hbg_s.keep hf_oneMind eG5 (by decide)
    have hbd_s := hbd_s.keep hf_oneMind eG5 (by decide)
    have hsd_s := hsd_s.keep hf_oneMind eG5 (by decide)
    have hse__s := hse__s.keep hf_oneMind eG5 (by decide)
    have hstk_s := hstk_s.keep hf_oneMind eG5 (by decide)
    have hst := (fx.rf (o := o) (S := [50]) (G := G4)).wr hf_oneMind eG5 (List.mem_singleton.mpr rfl)
    have pcsI_tkn_o := csI.fr hst pcsI_tkn_o (by decide) (by decide)
    have hlen := (z_len eG5).trans hlen
    have hsl := (z_sl hf_oneMind eG5 rfl).trans hsl
    have hfr := hfr.wr hf_oneMind eG5 (by decide)
    have hf_oneMind := hf_oneMind.kept eG5
    change ab_W _ _ _ (List.set G4 f_oneMind (ab_ob 3 [sp0_o, vR wk_o, vR onw_o, vR tkn_o, vR se__o, vR cle_o, vR stk_o, vz dp_o, vz fo_o, vz chn_o, q0_o, s0_o, vz hw_o, vz fy_o, vj 0])) 101 [some (vR w_), some (vz z1), some (vz z2), some (vj (((400 * (z1 + 20)) * (n + 20)) * (z2 + 1))), none, some (vj (((stp_t + stp_k) + stp_o) + stp_s)), none] [] _
    rw [← eG5]
    refine ab_aload_n d_PW_settle_101 rfl ?_
    refine ab_getf (fs := [vR f_ready, vR f_tape, vR f_reader, vR f_programs, vR f_subject, vR f_spans, vR f_threads, vR f_marks, vR f_oneMind, vR f_states, vR f_latest, vR f_matches, vR f_pieces, vR f_template, vR f_result, vR f_spare, vz cmp, vz ovs]) f_PW_69 d_PW_settle_102 hw_.2.2 rfl ?_
    refine zz_lconst d_PW_settle_105 ?_
    change ab_W _ _ _ G5 106 [some (vR w_), some (vz z1), some (vz z2), some (vj (((400 * (z1 + 20)) * (n + 20)) * (z2 + 1))), none, some (vj (((stp_t + stp_k) + stp_o) + stp_s)), none] [vj 0, vR f_states] _
    refine ab_putf (fs := [vz mst_s, q0_s, vz vr_s, vz ro_s, vR cu_s, vz cn_s, vR eg_s, vR po_s, vR bg_s, vR bd_s, vz ct_s, vR sd_s, vz sc_s, vR se__s, vz sta_s, vR stk_s, vz arv_s, vj stp_s]) f_PW_261 (Or.inl rfl) d_PW_settle_106 hf_states.2.2 (Nat.le_of_ble_eq_true rfl) (fun _ => ⟨rfl, rfl⟩) (hf_states.2.1 (by decide)) ?_
    obtain ⟨G6, eG6⟩ : ∃ z : ab_G, z = List.set G5 f_states (ab_ob 8 [vz mst_s, q0_s, vz vr_s, vz ro_s, vR cu_s, vz cn_s, vR eg_s, vR po_s, vR bg_s, vR bd_s, vz ct_s, vR sd_s, vz sc_s, vR se__s, vz sta_s, vR stk_s, vz arv_s, vj 0]) := ⟨_, rfl⟩
    have hw_ := hw_.keep hf_states eG6 (by decide)
    have hf_subject := hf_subject.keep hf_states eG6 (by decide)
    have hby_ := hby_.keep hf_states eG6 (by decide)
    have hco := hco.keep hf_states eG6 (by decide)
    have hre := hre.keep hf_states eG6 (by decide)
    have hho := hho.keep hf_states eG6 (by decide)
    have hf_threads := hf_threads.keep hf_states eG6 (by decide)
    have hwk_t := hwk_t.keep hf_states eG6 (by decide)
    have hnw_t := hnw_t.keep hf_states eG6 (by omega)
    have htn_t := htn_t.keep hf_states eG6 (by omega)
    have hnsp_t := hnsp_t.keep hf_states eG6 (by omega)
    have htsp_t := htsp_t.keep hf_states eG6 (by omega)
    have hse_t := hse_t.keep hf_states eG6 (by decide)
    have hstk_t := hstk_t.keep hf_states eG6 (by decide)
    have hf_marks := hf_marks.keep hf_states eG6 (by decide)
    have hwk_k := hwk_k.keep hf_states eG6 (by decide)
    have hmk_k := hmk_k.keep hf_states eG6 (by decide)
    have hstk_k := hstk_k.keep hf_states eG6 (by decide)
    have hf_oneMind := hf_oneMind.keep hf_states eG6 (by decide)
    have hwk_o := hwk_o.keep hf_states eG6 (by decide)
    have honw_o := honw_o.keep hf_states eG6 (by decide)
    have hse__o := hse__o.keep hf_states eG6 (by decide)
    have hcle_o := hcle_o.keep hf_states eG6 (by decide)
    have hstk_o := hstk_o.keep hf_states eG6 (by decide)
    have hcu_s := hcu_s.keep hf_states eG6 (by decide)
    have heg_s := heg_s.keep hf_states eG6 (by decide)
    have hpo_s := hpo_s.keep hf_states eG6 (by decide)
    have hbg_s := hbg_s.keep hf_states eG6 (by decide)
    have hbd_s := hbd_s.keep hf_states eG6 (by decide)
    have hsd_s := hsd_s.keep hf_states eG6 (by decide)
    have hse__s := hse__s.keep hf_states eG6 (by decide)
    have hstk_s := hstk_s.keep hf_states eG6 (by decide)
    have hst := (fx.rf (o := o) (S := [60]) (G := G5)).wr hf_states eG6 (List.mem_singleton.mpr rfl)
    have pcsI_tkn_o := csI.fr hst pcsI_tkn_o (by decide) (by decide)
    have hlen := (z_len eG6).trans hlen
    have hsl := (z_sl hf_states eG6 rfl).trans hsl
    have hfr := hfr.wr hf_states eG6 (by decide)
    have hf_states := hf_states.kept eG6
    change ab_W _ _ _ (List.set G5 f_states (ab_ob 8 [vz mst_s, q0_s, vz vr_s, vz ro_s, vR cu_s, vz cn_s, vR eg_s, vR po_s, vR bg_s, vR bd_s, vz ct_s, vR sd_s, vz sc_s, vR se__s, vz sta_s, vR stk_s, vz arv_s, vj 0])) 109 [some (vR w_), some (vz z1), some (vz z2), some (vj (((400 * (z1 + 20)) * (n + 20)) * (z2 + 1))), none, some (vj (((stp_t + stp_k) + stp_o) + stp_s)), none] [] _
    rw [← eG6]
    have psuI_f_subject : suI o G6 f_subject n m f := ⟨by_, co, re, ho, C, Rs, H, mc, hf_subject, hby_, hco, hre, hho, (by omega), hsu⟩
    have pthI_f_threads : thI o G6 f_threads := ⟨wk_t, nw_t, tn_t, nsp_t, tsp_t, se_t, stk_t, nc_t, tc_t, sta_t, fo_t, hw_t, fy_t, 0, WK_t, NW_t, TN_t, NS_t, TS_t, SE_t, SK_t, l1_t, l2_t, l3_t, l4_t, sp0_t, q0_t, s0_t, hf_threads, hwk_t, hnw_t, htn_t, hnsp_t, htsp_t, hse_t, hstk_t, (by omega), jse_t, (by omega)⟩
    have pmkI_f_marks : mkI o G6 f_marks nm ns := ⟨wk_k, mk_k, stk_k, w_k, df_k, dp_k, fo_k, fy_k, hw_k, 0, WK_k, M_k, SK_k, sp0_k, q0_k, s0_k, hf_marks, hwk_k, hmk_k, hstk_k, (by omega), hst_k, (by omega)⟩
    have pomI_f_oneMind : omI o G6 f_oneMind on nt := ⟨wk_o, onw_o, tkn_o, se__o, cle_o, stk_o, dp_o, fo_o, chn_o, hw_o, fy_o, 0, WK_o, ON_o, SK_o, sp0_o, q0_o, s0_o, SE_o, CL_o, ct_o, P_o, nk_o, hf_oneMind, hwk_o, honw_o, hse__o, hcle_o, hstk_o, pcsI_tkn_o, hon_o, (by omega)⟩
    have pstI_f_states : stI o G6 f_states cv cmp sb := ⟨cu_s, eg_s, po_s, bg_s, bd_s, sd_s, se__s, stk_s, mst_s, q0_s, vr_s, ro_s, cn_s, ct_s, sc_s, sta_s, arv_s, 0, CU_s, EG_s, PO_s, BG_s, BD_s, SD_s, SE_s, SK_s, hf_states, hcu_s, heg_s, hpo_s, hbg_s, hbd_s, hsd_s, hse__s, hstk_s, jcu_s, (by omega), (by omega), (by omega), jbg_s, jpo_s, jbd_s, jeg_s, (by omega), jse_s, (by omega), jsq_s⟩
    refine ab_vret rfl d_PW_settle_109 ?_
    rw [hQ]; exact ⟨_, rfl, hfr, hlen, hsl, hw_, pthI_f_threads, pmkI_f_marks, pomI_f_oneMind, pstI_f_states, psuI_f_subject⟩
  · refine ab_aload_n d_PW_settle_67 rfl ?_
    refine ab_dup d_PW_settle_68 rfl ?_
    refine ab_getf (fs := [vR f_ready, vR f_tape, vR f_reader, vR f_programs, vR f_subject, vR f_spans, vR f_threads, vR f_marks, vR f_oneMind, vR f_states, vR f_latest, vR f_matches, vR f_pieces, vR f_template, vR f_result, vR f_spare, vz cmp, vz ovs]) f_PW_240 d_PW_settle_69 hw_.2.2 rfl ?_
    refine zz_iconst d_PW_settle_72 ?_
    refine zz_iadd d_PW_settle_73 ?_
    refine ab_putf (fs := [vR f_ready, vR f_tape, vR f_reader, vR f_programs, vR f_subject, vR f_spans, vR f_threads, vR f_marks, vR f_oneMind, vR f_states, vR f_latest, vR f_matches, vR f_pieces, vR f_template, vR f_result, vR f_spare, vz cmp, vz ovs]) f_PW_240 (Or.inl rfl) d_PW_settle_74 hw_.2.2 (Nat.le_of_ble_eq_true rfl) (fun _ => ⟨rfl, rfl⟩) (hw_.2.1 (by decide)) ?_
    obtain ⟨G7, eG7⟩ : ∃ z : ab_G, z = List.set G w_ (ab_ob 0 [vR f_ready, vR f_tape, vR f_reader, vR f_programs, vR f_subject, vR f_spans, vR f_threads, vR f_marks, vR f_oneMind, vR f_states, vR f_latest, vR f_matches, vR f_pieces, vR f_template, vR f_result, vR f_spare, vz cmp, vz (ovs + 1)]) := ⟨_, rfl⟩
    have hf_subject := hf_subject.keep hw_ eG7 (by decide)
    have hby_ := hby_.keep hw_ eG7 (by decide)
    have hco := hco.keep hw_ eG7 (by decide)
    have hre := hre.keep hw_ eG7 (by decide)
    have hho := hho.keep hw_ eG7 (by decide)
    have hf_threads := hf_threads.keep hw_ eG7 (by decide)
    have hwk_t := hwk_t.keep hw_ eG7 (by decide)
    have hnw_t := hnw_t.keep hw_ eG7 (by omega)
    have htn_t := htn_t.keep hw_ eG7 (by omega)
    have hnsp_t := hnsp_t.keep hw_ eG7 (by omega)
    have htsp_t := htsp_t.keep hw_ eG7 (by omega)
    have hse_t := hse_t.keep hw_ eG7 (by decide)
    have hstk_t := hstk_t.keep hw_ eG7 (by decide)
    have hf_marks := hf_marks.keep hw_ eG7 (by decide)
    have hwk_k := hwk_k.keep hw_ eG7 (by decide)
    have hmk_k := hmk_k.keep hw_ eG7 (by decide)
    have hstk_k := hstk_k.keep hw_ eG7 (by decide)
    have hf_oneMind := hf_oneMind.keep hw_ eG7 (by decide)
    have hwk_o := hwk_o.keep hw_ eG7 (by decide)
    have honw_o := honw_o.keep hw_ eG7 (by decide)
    have hse__o := hse__o.keep hw_ eG7 (by decide)
    have hcle_o := hcle_o.keep hw_ eG7 (by decide)
    have hstk_o := hstk_o.keep hw_ eG7 (by decide)
    have hf_states := hf_states.keep hw_ eG7 (by decide)
    have hcu_s := hcu_s.keep hw_ eG7 (by decide)
    have heg_s := heg_s.keep hw_ eG7 (by decide)
    have hpo_s := hpo_s.keep hw_ eG7 (by decide)
    have hbg_s := hbg_s.keep hw_ eG7 (by decide)
    have hbd_s := hbd_s.keep hw_ eG7 (by decide)
    have hsd_s := hsd_s.keep hw_ eG7 (by decide)
    have hse__s := hse__s.keep hw_ eG7 (by decide)
    have hstk_s := hstk_s.keep hw_ eG7 (by decide)
    have hst := (fx.rf (o := o) (S := [18]) (G := G)).wr hw_ eG7 (List.mem_singleton.mpr rfl)
    have pcsI_tkn_o := csI.fr hst pcsI_tkn_o (by decide) (by decide)
    have hlen := (z_len eG7).trans hlen
    have hsl := (z_sl hw_ eG7 rfl).trans hsl
    have hfr := hfr.wr hw_ eG7 (by decide)
    have hw_ := hw_.kept eG7
    change ab_W _ _ _ (List.set G w_ (ab_ob 0 [vR f_ready, vR f_tape, vR f_reader, vR f_programs, vR f_subject, vR f_spans, vR f_threads, vR f_marks, vR f_oneMind, vR f_states, vR f_latest, vR f_matches, vR f_pieces, vR f_template, vR f_result, vR f_spare, vz cmp, vz (ovs + 1)])) 77 [some (vR w_), some (vz z1), some (vz z2), some (vj (((400 * (z1 + 20)) * (n + 20)) * (z2 + 1))), none, some (vj (((stp_t + stp_k) + stp_o) + stp_s)), none] [] _
    rw [← eG7]
    refine ab_aload_n d_PW_settle_77 rfl ?_
    refine ab_getf (fs := [vR f_ready, vR f_tape, vR f_reader, vR f_programs, vR f_subject, vR f_spans, vR f_threads, vR f_marks, vR f_oneMind, vR f_states, vR f_latest, vR f_matches, vR f_pieces, vR f_template, vR f_result, vR f_spare, vz cmp, vz (ovs + 1)]) f_PW_48 d_PW_settle_78 hw_.2.2 rfl ?_
    refine zz_lconst d_PW_settle_81 ?_
    change ab_W _ _ _ G7 82 [some (vR w_), some (vz z1), some (vz z2), some (vj (((400 * (z1 + 20)) * (n + 20)) * (z2 + 1))), none, some (vj (((stp_t + stp_k) + stp_o) + stp_s)), none] [vj 0, vR f_threads] _
    refine ab_putf (fs := [sp0_t, vR wk_t, vR nw_t, vR tn_t, vR nsp_t, vR tsp_t, vz nc_t, vz tc_t, vR se_t, vz sta_t, vR stk_t, vz fo_t, q0_t, s0_t, vz hw_t, vz fy_t, vj stp_t]) f_PW_255 (Or.inl rfl) d_PW_settle_82 hf_threads.2.2 (Nat.le_of_ble_eq_true rfl) (fun _ => ⟨rfl, rfl⟩) (hf_threads.2.1 (by decide)) ?_
    obtain ⟨G8, eG8⟩ : ∃ z : ab_G, z = List.set G7 f_threads (ab_ob 11 [sp0_t, vR wk_t, vR nw_t, vR tn_t, vR nsp_t, vR tsp_t, vz nc_t, vz tc_t, vR se_t, vz sta_t, vR stk_t, vz fo_t, q0_t, s0_t, vz hw_t, vz fy_t, vj 0]) := ⟨_, rfl⟩
    have hw_ := hw_.keep hf_threads eG8 (by decide)
    have hf_subject := hf_subject.keep hf_threads eG8 (by decide)
    have hby_ := hby_.keep hf_threads eG8 (by decide)
    have hco := hco.keep hf_threads eG8 (by decide)
    have hre := hre.keep hf_threads eG8 (by decide)
    have hho := hho.keep hf_threads eG8 (by decide)
    have hwk_t := hwk_t.keep hf_threads eG8 (by decide)
    have hnw_t := hnw_t.keep hf_threads eG8 (by omega)
    have htn_t := htn_t.keep hf_threads eG8 (by omega)
    have hnsp_t := hnsp_t.keep hf_threads eG8 (by omega)
    have htsp_t := htsp_t.keep hf_threads eG8 (by omega)
    have hse_t := hse_t.keep hf_threads eG8 (by decide)
    have hstk_t := hstk_t.keep hf_threads eG8 (by decide)
    have hf_marks := hf_marks.keep hf_threads eG8 (by decide)
    have hwk_k := hwk_k.keep hf_threads eG8 (by decide)
    have hmk_k := hmk_k.keep hf_threads eG8 (by decide)
    have hstk_k := hstk_k.keep hf_threads eG8 (by decide)
    have hf_oneMind := hf_oneMind.keep hf_threads eG8 (by decide)
    have hwk_o := hwk_o.keep hf_threads eG8 (by decide)
    have honw_o := honw_o.keep hf_threads eG8 (by decide)
    have hse__o := hse__o.keep hf_threads eG8 (by decide)
    have hcle_o := hcle_o.keep hf_threads eG8 (by decide)
    have hstk_o := hstk_o.keep hf_threads eG8 (by decide)
    have hf_states := hf_states.keep hf_threads eG8 (by decide)
    have hcu_s := hcu_s.keep hf_threads eG8 (by decide)
    have heg_s := heg_s.keep hf_threads eG8 (by decide)
    have hpo_s := hpo_s.keep hf_threads eG8 (by decide)
    have hbg_s := hbg_s.keep hf_threads eG8 (by decide)
    have hbd_s := hbd_s.keep hf_threads eG8 (by decide)
    have hsd_s := hsd_s.keep hf_threads eG8 (by decide)
    have hse__s := hse__s.keep hf_threads eG8 (by decide)
    have hstk_s := hstk_s.keep hf_threads eG8 (by decide)
    have hst := (fx.rf (o := o) (S := [32]) (G := G7)).wr hf_threads eG8 (List.mem_singleton.mpr rfl)
    have pcsI_tkn_o := csI.fr hst pcsI_tkn_o (by decide) (by decide)
    have hlen := (z_len eG8).trans hlen
    have hsl := (z_sl hf_threads eG8 rfl).trans hsl
    have hfr := hfr.wr hf_threads eG8 (by decide)
    have hf_threads := hf_threads.kept eG8
    change ab_W _ _ _ (List.set G7 f_threads (ab_ob 11 [sp0_t, vR wk_t, vR nw_t, vR tn_t, vR nsp_t, vR tsp_t, vz nc_t, vz tc_t, vR se_t, vz sta_t, vR stk_t, vz fo_t, q0_t, s0_t, vz hw_t, vz fy_t, vj 0])) 85 [some (vR w_), some (vz z1), some (vz z2), some (vj (((400 * (z1 + 20)) * (n + 20)) * (z2 + 1))), none, some (vj (((stp_t + stp_k) + stp_o) + stp_s)), none] [] _
    rw [← eG8]
    refine ab_aload_n d_PW_settle_85 rfl ?_
    refine ab_getf (fs := [vR f_ready, vR f_tape, vR f_reader, vR f_programs, vR f_subject, vR f_spans, vR f_threads, vR f_marks, vR f_oneMind, vR f_states, vR f_latest, vR f_matches, vR f_pieces, vR f_template, vR f_result, vR f_spare, vz cmp, vz (ovs + 1)]) f_PW_55 d_PW_settle_86 hw_.2.2 rfl ?_
    refine zz_lconst d_PW_settle_89 ?_
    change ab_W _ _ _ G8 90 [some (vR w_), some (vz z1), some (vz z2), some (vj (((400 * (z1 + 20)) * (n + 20)) * (z2 + 1))), none, some (vj (((stp_t + stp_k) + stp_o) + stp_s)), none] [vj 0, vR f_marks] _
    refine ab_putf (fs := [sp0_k, vR wk_k, vR mk_k, vz w_k, vz df_k, vR stk_k, vz dp_k, vz fo_k, vz fy_k, vz hw_k, q0_k, s0_k, vj stp_k]) f_PW_259 (Or.inl rfl) d_PW_settle_90 hf_marks.2.2 (Nat.le_of_ble_eq_true rfl) (fun _ => ⟨rfl, rfl⟩) (hf_marks.2.1 (by decide)) ?_
    obtain ⟨G9, eG9⟩ : ∃ z : ab_G, z = List.set G8 f_marks (ab_ob 2 [sp0_k, vR wk_k, vR mk_k, vz w_k, vz df_k, vR stk_k, vz dp_k, vz fo_k, vz fy_k, vz hw_k, q0_k, s0_k, vj 0]) := ⟨_, rfl⟩
    have hw_ := hw_.keep hf_marks eG9 (by decide)
    have hf_subject := hf_subject.keep hf_marks eG9 (by decide)
    have hby_ := hby_.keep hf_marks eG9 (by decide)
    have hco := hco.keep hf_marks eG9 (by decide)
    have hre := hre.keep hf_marks eG9 (by decide)
    have hho := hho.keep hf_marks eG9 (by decide)
    have hf_threads := hf_threads.keep hf_marks eG9 (by decide)
    have hwk_t := hwk_t.keep hf_marks eG9 (by decide)
    have hnw_t := hnw_t.keep hf_marks eG9 (by omega)
    have htn_t := htn_t.keep hf_marks eG9 (by omega)
    have hnsp_t := hnsp_t.keep hf_marks eG9 (by omega)
    have htsp_t := htsp_t.keep hf_marks eG9 (by omega)
    have hse_t := hse_t.keep hf_marks eG9 (by decide)
    have hstk_t := hstk_t.keep hf_marks eG9 (by decide)
    have hwk_k := hwk_k.keep hf_marks eG9 (by decide)
    have hmk_k := hmk_k.keep hf_marks eG9 (by decide)
    have hstk_k := hstk_k.keep hf_marks eG9 (by decide)
    have hf_oneMind := hf_oneMind.keep hf_marks eG9 (by decide)
    have hwk_o := hwk_o.keep hf_marks eG9 (by decide)
    have honw_o := honw_o.keep hf_marks eG9 (by decide)
    have hse__o := hse__o.keep hf_marks eG9 (by decide)
    have hcle_o := hcle_o.keep hf_marks eG9 (by decide)
    have hstk_o := hstk_o.keep hf_marks eG9 (by decide)
    have hf_states := hf_states.keep hf_marks eG9 (by decide)
    have hcu_s := hcu_s.keep hf_marks eG9 (by decide)
    have heg_s := heg_s.keep hf_marks eG9 (by decide)
    have hpo_s := hpo_s.keep hf_marks eG9 (by decide)
    have hbg_s := hbg_s.keep hf_marks eG9 (by decide)
    have hbd_s := hbd_s.keep hf_marks eG9 (by decide)
    have hsd_s := hsd_s.keep hf_marks eG9 (by decide)
    have hse__s := hse__s.keep hf_marks eG9 (by decide)
    have hstk_s := hstk_s.keep hf_marks eG9 (by decide)
    have hst := (fx.rf (o := o) (S := [44]) (G := G8)).wr hf_marks eG9 (List.mem_singleton.mpr rfl)
    have pcsI_tkn_o := csI.fr hst pcsI_tkn_o (by decide) (by decide)
    have hlen := (z_len eG9).trans hlen
    have hsl := (z_sl hf_marks eG9 rfl).trans hsl
    have hfr := hfr.wr hf_marks eG9 (by decide)
    have hf_marks := hf_marks.kept eG9
    change ab_W _ _ _ (List.set G8 f_marks (ab_ob 2 [sp0_k, vR wk_k, vR mk_k, vz w_k, vz df_k, vR stk_k, vz dp_k, vz fo_k, vz fy_k, vz hw_k, q0_k, s0_k, vj 0])) 93 [some (vR w_), some (vz z1), some (vz z2), some (vj (((400 * (z1 + 20)) * (n + 20)) * (z2 + 1))), none, some (vj (((stp_t + stp_k) + stp_o) + stp_s)), none] [] _
    rw [← eG9]
    refine ab_aload_n d_PW_settle_93 rfl ?_
    refine ab_getf (fs := [vR f_ready, vR f_tape, vR f_reader, vR f_programs, vR f_subject, vR f_spans, vR f_threads, vR f_marks, vR f_oneMind, vR f_states, vR f_latest, vR f_matches, vR f_pieces, vR f_template, vR f_result, vR f_spare, vz cmp, vz (ovs + 1)]) f_PW_62 d_PW_settle_94 hw_.2.2 rfl ?_
    refine zz_lconst d_PW_settle_97 ?_
    change ab_W _ _ _ G9 98 [some (vR w_), some (vz z1), some (vz z2), some (vj (((400 * (z1 + 20)) * (n + 20)) * (z2 + 1))), none, some (vj (((stp_t + stp_k) + stp_o) + stp_s)), none] [vj 0, vR f_oneMind] _
    refine ab_putf (fs := [sp0_o, vR wk_o, vR onw_o, vR tkn_o, vR se__o, vR cle_o, vR stk_o, vz dp_o, vz fo_o, vz chn_o, q0_o, s0_o, vz hw_o, vz fy_o, vj stp_o]) f_PW_260 (Or.inl rfl) d_PW_settle_98 hf_oneMind.2.2 (Nat.le_of_ble_eq_true rfl) (fun _ => ⟨rfl, rfl⟩) (hf_oneMind.2.1 (by decide)) ?_
    obtain ⟨G10, eG10⟩ : ∃ z : ab_G, z = List.set G9 f_oneMind (ab_ob 3 [sp0_o, vR wk_o, vR onw_o, vR tkn_o, vR se__o, vR cle_o, vR stk_o, vz dp_o, vz fo_o, vz chn_o, q0_o, s0_o, vz hw_o, vz fy_o, vj 0]) := ⟨_, rfl⟩
    have hw_ := hw_.keep hf_oneMind eG10 (by decide)
    have hf_subject := hf_subject.keep hf_oneMind eG10 (by decide)
    have hby_ := hby_.keep hf_oneMind eG10 (by decide)
    have hco := hco.keep hf_oneMind eG10 (by decide)
    have hre := hre.keep hf_oneMind eG10 (by decide)
    have hho := hho.keep hf_oneMind eG10 (by decide)
    have hf_threads := hf_threads.keep hf_oneMind eG10 (by decide)
    have hwk_t := hwk_t.keep hf_oneMind eG10 (by decide)
    have hnw_t := hnw_t.keep hf_oneMind eG10 (by omega)
    have htn_t := htn_t.keep hf_oneMind eG10 (by omega)
    have hnsp_t := hnsp_t.keep hf_oneMind eG10 (by omega)
    have htsp_t := htsp_t.keep hf_oneMind eG10 (by omega)
    have hse_t := hse_t.keep hf_oneMind eG10 (by decide)
    have hstk_t := hstk_t.keep hf_oneMind eG10 (by decide)
    have hf_marks := hf_marks.keep hf_oneMind eG10 (by decide)
    have hwk_k := hwk_k.keep hf_oneMind eG10 (by decide)
    have hmk_k := hmk_k.keep hf_oneMind eG10 (by decide)
    have hstk_k := hstk_k.keep hf_oneMind eG10 (by decide)
    have hwk_o := hwk_o.keep hf_oneMind eG10 (by decide)
    have honw_o := honw_o.keep hf_oneMind eG10 (by decide)
    have hse__o := hse__o.keep hf_oneMind eG10 (by decide)
    have hcle_o := hcle_o.keep hf_oneMind eG10 (by decide)
    have hstk_o := hstk_o.keep hf_oneMind eG10 (by decide)
    have hf_states := hf_states.keep hf_oneMind eG10 (by decide)
    have hcu_s := hcu_s.keep hf_oneMind eG10 (by decide)
    have heg_s := heg_s.keep hf_oneMind eG10 (by decide)
    have hpo_s := hpo_s.keep hf_oneMind eG10 (by decide)
    have hbg_s := hbg_s.keep hf_oneMind eG10 (by decide)
    have hbd_s := hbd_s.keep hf_oneMind eG10 (by decide)
    have hsd_s := hsd_s.keep hf_oneMind eG10 (by decide)
    have hse__s := hse__s.keep hf_oneMind eG10 (by decide)
    have hstk_s := hstk_s.keep hf_oneMind eG10 (by decide)
    have hst := (fx.rf (o := o) (S := [50]) (G := G9)).wr hf_oneMind eG10 (List.mem_singleton.mpr rfl)
    have pcsI_tkn_o := csI.fr hst pcsI_tkn_o (by decide) (by decide)
    have hlen := (z_len eG10).trans hlen
    have hsl := (z_sl hf_oneMind eG10 rfl).trans hsl
    have hfr := hfr.wr hf_oneMind eG10 (by decide)
    have hf_oneMind := hf_oneMind.kept eG10
    change ab_W _ _ _ (List.set G9 f_oneMind (ab_ob 3 [sp0_o, vR wk_o, vR onw_o, vR tkn_o, vR se__o, vR cle_o, vR stk_o, vz dp_o, vz fo_o, vz chn_o, q0_o, s0_o, vz hw_o, vz fy_o, vj 0])) 101 [some (vR w_), some (vz z1), some (vz z2), some (vj (((400 * (z1 + 20)) * (n + 20)) * (z2 + 1))), none, some (vj (((stp_t + stp_k) + stp_o) + stp_s)), none] [] _
    rw [← eG10]
    refine ab_aload_n d_PW_settle_101 rfl ?_
    refine ab_getf (fs := [vR f_ready, vR f_tape, vR f_reader, vR f_programs, vR f_subject, vR f_spans, vR f_threads, vR f_marks, vR f_oneMind, vR f_states, vR f_latest, vR f_matches, vR f_pieces, vR f_template, vR f_result, vR f_spare, vz cmp, vz (ovs + 1)]) f_PW_69 d_PW_settle_102 hw_.2.2 rfl ?_
    refine zz_lconst d_PW_settle_105 ?_
    change ab_W _ _ _ G10 106 [some (vR w_), some (vz z1), some (vz z2), some (vj (((400 * (z1 + 20)) * (n + 20)) * (z2 + 1))), none, some (vj (((stp_t + stp_k) + stp_o) + stp_s)), none] [vj 0, vR f_states] _
    refine ab_putf (fs := [vz mst_s, q0_s, vz vr_s, vz ro_s, vR cu_s, vz cn_s, vR eg_s, vR po_s, vR bg_s, vR bd_s, vz ct_s, vR sd_s, vz sc_s, vR se__s, vz sta_s, vR stk_s, vz arv_s, vj stp_s]) f_PW_261 (Or.inl rfl) d_PW_settle_106 hf_states.2.2 (Nat.le_of_ble_eq_true rfl) (fun _ => ⟨rfl, rfl⟩) (hf_states.2.1 (by decide)) ?_
    obtain ⟨G11, eG11⟩ : ∃ z : ab_G, z = List.set G10 f_states (ab_ob 8 [vz mst_s, q0_s, vz vr_s, vz ro_s, vR cu_s, vz cn_s, vR eg_s, vR po_s, vR bg_s, vR bd_s, vz ct_s, vR sd_s, vz sc_s, vR se__s, vz sta_s, vR stk_s, vz arv_s, vj 0]) := ⟨_, rfl⟩
    have hw_ := hw_.keep hf_states eG11 (by decide)
    have hf_subject := hf_subject.keep hf_states eG11 (by decide)
    have hby_ := hby_.keep hf_states eG11 (by decide)
    have hco := hco.keep hf_states eG11 (by decide)
    have hre := hre.keep hf_states eG11 (by decide)
    have hho := hho.keep hf_states eG11 (by decide)
    have hf_threads := hf_threads.keep hf_states eG11 (by decide)
    have hwk_t := hwk_t.keep hf_states eG11 (by decide)
    have hnw_t := hnw_t.keep hf_states eG11 (by omega)
    have htn_t := htn_t.keep hf_states eG11 (by omega)
    have hnsp_t := hnsp_t.keep hf_states eG11 (by omega)
    have htsp_t := htsp_t.keep hf_states eG11 (by omega)
    have hse_t := hse_t.keep hf_states eG11 (by decide)
    have hstk_t := hstk_t.keep hf_states eG11 (by decide)
    have hf_marks := hf_marks.keep hf_states eG11 (by decide)
    have hwk_k := hwk_k.keep hf_states eG11 (by decide)
    have hmk_k := hmk_k.keep hf_states eG11 (by decide)
    have hstk_k := hstk_k.keep hf_states eG11 (by decide)
    have hf_oneMind := hf_oneMind.keep hf_states eG11 (by decide)
    have hwk_o := hwk_o.keep hf_states eG11 (by decide)
    have honw_o := honw_o.keep hf_states eG11 (by decide)
    have hse__o := hse__o.keep hf_states eG11 (by decide)
    have hcle_o := hcle_o.keep hf_states eG11 (by decide)
    have hstk_o := hstk_o.keep hf_states eG11 (by decide)
    have hcu_s := hcu_s.keep hf_states eG11 (by decide)
    have heg_s := heg_s.keep hf_states eG11 (by decide)
    have hpo_s := hpo_s.keep hf_states eG11 (by decide)
    have hbg_s := hbg_s.keep hf_states eG11 (by decide)
    have hbd_s := hbd_s.keep hf_states eG11 (by decide)
    have hsd_s := hsd_s.keep hf_states eG11 (by decide)
    have hse__s := hse__s.keep hf_states eG11 (by decide)
    have hstk_s := hstk_s.keep hf_states eG11 (by decide)
    have hst := (fx.rf (o := o) (S := [60]) (G := G10)).wr hf_states eG11 (List.mem_singleton.mpr rfl)
    have pcsI_tkn_o := csI.fr hst pcsI_tkn_o (by decide) (by decide)
    have hlen := (z_len eG11).trans hlen
    have hsl := (z_sl hf_states eG11 rfl).trans hsl
    have hfr := hfr.wr hf_states eG11 (by decide)
    have hf_states := hf_states.kept eG11
    change ab_W _ _ _ (List.set G10 f_states (ab_ob 8 [vz mst_s, q0_s, vz vr_s, vz ro_s, vR cu_s, vz cn_s, vR eg_s, vR po_s, vR bg_s, vR bd_s, vz ct_s, vR sd_s, vz sc_s, vR se__s, vz sta_s, vR stk_s, vz arv_s, vj 0])) 109 [some (vR w_), some (vz z1), some (vz z2), some (vj (((400 * (z1 + 20)) * (n + 20)) * (z2 + 1))), none, some (vj (((stp_t + stp_k) + stp_o) + stp_s)), none] [] _
    rw [← eG11]
    have psuI_f_subject : suI o G11 f_subject n m f := ⟨by_, co, re, ho, C, Rs, H, mc, hf_subject, hby_, hco, hre, hho, (by omega), hsu⟩
    have pthI_f_threads : thI o G11 f_threads := ⟨wk_t, nw_t, tn_t, nsp_t, tsp_t, se_t, stk_t, nc_t, tc_t, sta_t, fo_t, hw_t, fy_t, 0, WK_t, NW_t, TN_t, NS_t, TS_t, SE_t, SK_t, l1_t, l2_t, l3_t, l4_t, sp0_t, q0_t, s0_t, hf_threads, hwk_t, hnw_t, htn_t, hnsp_t, htsp_t, hse_t, hstk_t, (by omega), jse_t, (by omega)⟩
    have pmkI_f_marks : mkI o G11 f_marks nm ns := ⟨wk_k, mk_k, stk_k, w_k, df_k, dp_k, fo_k, fy_k, hw_k, 0, WK_k, M_k, SK_k, sp0_k, q0_k, s0_k, hf_marks, hwk_k, hmk_k, hstk_k, (by omega), hst_k, (by omega)⟩
    have pomI_f_oneMind : omI o G11 f_oneMind on nt := ⟨wk_o, onw_o, tkn_o, se__o, cle_o, stk_o, dp_o, fo_o, chn_o, hw_o, fy_o, 0, WK_o, ON_o, SK_o, sp0_o, q0_o, s0_o, SE_o, CL_o, ct_o, P_o, nk_o, hf_oneMind, hwk_o, honw_o, hse__o, hcle_o, hstk_o, pcsI_tkn_o, hon_o, (by omega)⟩
    have pstI_f_states : stI o G11 f_states cv cmp sb := ⟨cu_s, eg_s, po_s, bg_s, bd_s, sd_s, se__s, stk_s, mst_s, q0_s, vr_s, ro_s, cn_s, ct_s, sc_s, sta_s, arv_s, 0, CU_s, EG_s, PO_s, BG_s, BD_s, SD_s, SE_s, SK_s, hf_states, hcu_s, heg_s, hpo_s, hbg_s, hbd_s, hsd_s, hse__s, hstk_s, jcu_s, (by omega), (by omega), (by omega), jbg_s, jpo_s, jbd_s, jeg_s, (by omega), jse_s, (by omega), jsq_s⟩
    refine ab_vret rfl d_PW_settle_109 ?_
    rw [hQ]; exact ⟨_, rfl, hfr, hlen, hsl, hw_, pthI_f_threads, pmkI_f_marks, pomI_f_oneMind, pstI_f_states, psuI_f_subject⟩
set_option maxRecDepth 100000 in
set_option maxHeartbeats 4000000 in
theorem z0_PW_run {X : ab_X} {d : Nat} {o : Nat → Nat} {G : ab_G} {w_ : Nat} {f_ready : Nat} {f_tape : Nat} {f_reader : Nat} {f_programs : Nat} {f_subject : Nat} {f_spans : Nat} {f_threads : Nat} {f_marks : Nat} {f_oneMind : Nat} {f_states : Nat} {f_latest : Nat} {f_matches : Nat} {f_pieces : Nat} {f_template : Nat} {f_result : Nat} {f_spare : Nat} {cmp : Int} {ovs : Int} {q : Nat} {lq : Nat} {nr : Nat} {cv : Int → Int} {on : Nat} {mi : Int} {nm : Nat} {ns : Nat} {n : Int} {m : Nat} {SP : Int → Int} {f : Int → Int} {hw : Int} {p : Int} (hw_ : cc o G w_ 18 (ab_ob 0 [vR f_ready, vR f_tape, vR f_reader, vR f_programs, vR f_subject, vR f_spans, vR f_threads, vR f_marks, vR f_oneMind, vR f_states, vR f_latest, vR f_matches, vR f_pieces, vR f_template, vR f_result, vR f_spare, vz cmp, vz ovs])) (hf_spans : cc o G f_spans 31 (za 20 SP)) (h17 : cc o G 17 17 (za 12 zFC)) (pmkI_f_marks : mkI o G f_marks nm ns) (psuI_f_subject : suI o G f_subject n m f) (ppgB_q : pgB o G q lq nr cv cmp on mi) (n18 : ab_n0 = 18) (chw : 0 ≤ hw ∧ hw ≤ 2 ∧ 0 ≤ p ∧ p ≤ n) (jsp : rgs SP 20 (-1) 2000) (rc : 64 * G.length + 4400000 ≤ 64 * (ab_n0 + room_1.cells) + (64 * nm + 64 * stC ns)) (rs : ab_slots G + 2140000 ≤ room_1.slots + (zT nm 52026 + stT ns)) (hd : 15 ≤ d) : ab_F X d y_PW_run (.code y_PW_run b_PW_run 5 (some (.int))) [vR w_, vR q, vz hw, vz 0, vz p] G (fun oc G2 => ∃ o2 : Nat → Nat, ∃ nm2 : Nat, ∃ ns2 : Nat, ∃ SP2 : Int → Int, ∃ r : Int, oc = .returned (some (vz r)) ∧ fx o o2 [31, 44, 45, 46, 47] G G2 ∧ cc o2 G2 f_spans 31 (za 20 SP2) ∧ mkI o2 G2 f_marks nm2 ns2 ∧ suI o2 G2 f_subject n m f ∧ pgB o2 G2 q lq nr cv cmp on mi ∧ (rnX cv lq f n hw p r SP2) ∧ (-1 ≤ r ∧ r ≤ n) ∧ (rgs SP2 20 (-1) 2000) ∧ (64 * G2.length + (64 * nm + 64 * stC ns) ≤ 64 * G.length + (64 * nm2 + 64 * stC ns2)) ∧ (ab_slots G2 + (zT nm 52026 + stT ns) ≤ ab_slots G + (zT nm2 52026 + stT ns2))) := by
  refine ab_F_of (by decide +kernel) (Nat.le_of_ble_eq_true rfl) ?_
  obtain ⟨Q, hQ⟩ : ∃ z : Outcome → ab_G → Prop, z = (fun oc G2 => ∃ o2 : Nat → Nat, ∃ nm2 : Nat, ∃ ns2 : Nat, ∃ SP2 : Int → Int, ∃ r : Int, oc = .returned (some (vz r)) ∧ fx o o2 [31, 44, 45, 46, 47] G G2 ∧ cc o2 G2 f_spans 31 (za 20 SP2) ∧ mkI o2 G2 f_marks nm2 ns2 ∧ suI o2 G2 f_subject n m f ∧ pgB o2 G2 q lq nr cv cmp on mi ∧ (rnX cv lq f n hw p r SP2) ∧ (-1 ≤ r ∧ r ≤ n) ∧ (rgs SP2 20 (-1) 2000) ∧ (64 * G2.length + (64 * nm + 64 * stC ns) ≤ 64 * G.length + (64 * nm2 + 64 * stC ns2)) ∧ (ab_slots G2 + (zT nm 52026 + stT ns) ≤ ab_slots G + (zT nm2 52026 + stT ns2))) := ⟨_, rfl⟩
  rw [← hQ]
  change ab_W X (ab_pl y_PW_run b_PW_run 5 (some (.int))) d G 0 [some (vR w_), some (vR q), some (vz hw), some (vz 0), some (vz p)] [] Q
  have hfr : fx o o [31, 44, 45, 46, 47] G G := fx.rf
  obtain ⟨ki, ne, ot, cnt, fi, la, ra, ru, gr, wi, sz, fl, ve, na, nl, K, N, O, RR, NA, NL, hq, hki, hne, hot, hra, hna, hnl, cq, hpu, hp, hr, hch, cru, ck9, cfi, cgr, cfl, hpo, hmi, hvc, cve, jnl, hiv, hmn, jna, hla, hpv, cv1⟩ := ppgB_q
  have hmn0_ := hmn
  obtain ⟨v9_, hmv_, hpm_⟩ := hmn0_
  obtain ⟨by_, co, re, ho, C, Rs, H, mc, hf_subject, hby_, hco, hre, hho, csu, hsu⟩ := psuI_f_subject
  have hq1 := stT_le ns
  have hq2 := stC_le ns
  have hq3 := onPQ_le on
  have hq4 := onSQ_le on
  have hnm_ := pmkI_f_marks.b
  have hzt_ : zT nm 52026 ≤ 156078 := zT_le (c := 52026) (by omega) rfl
  obtain ⟨wk_k, mk_k, stk_k, w_k, df_k, dp_k, fo_k, fy_k, hw_k, stp_k, WK_k, M_k, SK_k, sp0_k, q0_k, s0_k, hf_marks, hwk_k, hmk_k, hstk_k, cn_k, hst_k, cfo_k⟩ := pmkI_f_marks
  refine ab_iload_n d_PW_run_0 rfl ?_
  refine zz_iconst d_PW_run_1 ?_
  refine zz_icmp_ne (tgt := 25) d_PW_run_2 (by decide) (by decide) (by decide) (fun c5 => ?_) (fun c5 => absurd c5 (by decide))
  refine ab_iload_n d_PW_run_25 rfl ?_
  refine zz_iconst d_PW_run_26 ?_
  refine zz_icmp_ne (tgt := 65) d_PW_run_27 (by decide) (by decide) (by decide) (fun c6 => ?_) (fun c6 => absurd c6 (by decide))
  refine ab_iload_n d_PW_run_65 rfl ?_
  refine zz_iconst d_PW_run_66 ?_
  refine zz_icmp_ne (tgt := 90) d_PW_run_67 (by decide) (by decide) (by decide) (fun c7 => ?_) (fun c7 => absurd c7 (by decide))
  refine ab_aload_n d_PW_run_90 rfl ?_
  refine ab_getf (fs := [vR f_ready, vR f_tape, vR f_reader, vR f_programs, vR f_subject, vR f_spans, vR f_threads, vR f_marks, vR f_oneMind, vR f_states, vR f_latest, vR f_matches, vR f_pieces, vR f_template, vR f_result, vR f_spare, vz cmp, vz ovs]) f_PW_55 d_PW_run_91 hw_.2.2 rfl ?_
  refine ab_aload_n d_PW_run_94 rfl ?_
  refine ab_aload_n d_PW_run_95 rfl ?_
  refine ab_getf (fs := [vR f_ready, vR f_tape, vR f_reader, vR f_programs, vR f_subject, vR f_spans, vR f_threads, vR f_marks, vR f_oneMind, vR f_states, vR f_latest, vR f_matches, vR f_pieces, vR f_template, vR f_result, vR f_spare, vz cmp, vz ovs]) f_PW_38 d_PW_run_96 hw_.2.2 rfl ?_
  refine ab_iload_n d_PW_run_99 rfl ?_
  refine ab_iload d_PW_run_100 rfl ?_
  refine ab_aload_n d_PW_run_102 rfl ?_
  refine ab_getf (fs := [vR f_ready, vR f_tape, vR f_reader, vR f_programs, vR f_subject, vR f_spans, vR f_threads, vR f_marks, vR f_oneMind, vR f_states, vR f_latest, vR f_matches, vR f_pieces, vR f_template, vR f_result, vR f_spare, vz cmp, vz ovs]) f_PW_42 d_PW_run_103 hw_.2.2 rfl ?_
  refine ab_callV (d' := d - 1) (as := [vR q, vR f_subject, vz hw, vz p, vR f_spans]) (st := []) (r := _) (z_MK_begin (o := o) (q := q) (lq := lq) (ki := ki) (ne := ne) (ot := ot) (cnt := cnt) (fi := fi) (la := la) (ra := ra) (ru := ru) (gr := gr) (wi := wi) (sz := sz) (fl := fl) (ve := ve) (mi := mi) (na := na) (nl := nl) (s := f_subject) (by_ := by_) (co := co) (re := re) (ho := ho) (n := n) (a := f_marks) (sp := f_spans) (wk := wk_k) (mk := mk_k) (stk := stk_k) (dp := dp_k) (fo := fo_k) (hw := hw) (stp := stp_k) (M := M_k) (nm := nm) (q0 := q0_k) (s0 := s0_k) (sp0 := sp0_k) (from_ := p) (hw0 := hw_k) (fy0 := fy_k) (w0 := w_k) (df0 := df_k) hf_marks hmk_k hq hf_subject (by omega) (by omega) (by omega) (by omega) (by omega) (by omega) (by omega)) (fun oc G2 h => by rcases h with ⟨_, _, _, _, _, _, h, _⟩ <;> exact ⟨_, h⟩) (by omega) m_MK_begin ml_PW_189 im_MK_begin se_MK_begin c_MK hf_marks.2.2 (Nat.le_of_ble_eq_true rfl) d_PW_run_106 rfl ?_
  intro v G8 hq
  rcases hq with ⟨o9, w210, fy211, mk212, nm213, M214, hv, hfk, hNf_marks, hNmk212, hq15, hq16, hq17, hq18, hq19, hq20, hq21⟩
  cases hv
  have hw_ := hfk.get hw_ (by decide)
  have hf_spans := hfk.get hf_spans (by decide)
  have h17 := hfk.get h17 (by decide)
  have hq := hfk.get hq (by simp only [List.mem_cons, List.not_mem_nil, or_false]; omega)
  have hki := hfk.get hki (by simp only [List.mem_cons, List.not_mem_nil, or_false]; omega)
  have hne := hfk.get hne (by simp only [List.mem_cons, List.not_mem_nil, or_false]; omega)
  have hot := hfk.get hot (by simp only [List.mem_cons, List.not_mem_nil, or_false]; omega)
  have hra := hfk.get hra (by simp only [List.mem_cons, List.not_mem_nil, or_false]; omega)
  have hna := hfk.get hna (by simp only [List.mem_cons, List.not_mem_nil, or_false]; omega)
  have hnl := hfk.get hnl (by simp only [List.mem_cons, List.not_mem_nil, or_false]; omega)
  have hf_subject := hfk.get hf_subject (by decide)
  have hby_ := hfk.get hby_ (by decide)
  have hco := hfk.get hco (by decide)
  have hre := hfk.get hre (by decide)
  have hho := hfk.get hho (by decide)
  have hwk_k := hfk.get hwk_k (by decide)
  have hstk_k := hfk.get hstk_k (by decide)
  have hfr := hfr.tr hfk (by decide)
  have hq22 := hfk.1
  have hf_marks := hNf_marks
  have hmk212 := hNmk212
  change ab_W _ _ _ G8 109 [some (vR w_), some (vR q), some (vz hw), some (vz 0), some (vz p)] [] _
  have hzt2_ : zT nm213 52026 ≤ 156078 := zT_le (c := 52026) (by omega) rfl
  refine ab_aload_n d_PW_run_109 rfl ?_
  refine ab_getf (fs := [vR f_ready, vR f_tape, vR f_reader, vR f_programs, vR f_subject, vR f_spans, vR f_threads, vR f_marks, vR f_oneMind, vR f_states, vR f_latest, vR f_matches, vR f_pieces, vR f_template, vR f_result, vR f_spare, vz cmp, vz ovs]) f_PW_55 d_PW_run_110 hw_.2.2 rfl ?_
  refine ab_iload d_PW_run_113 rfl ?_
  refine ab_callV (d' := d - 1) (as := [vz p]) (st := []) (r := _) (z_MK_find (o := o9) (q := q) (lq := lq) (ki := ki) (ne := ne) (ot := ot) (cnt := cnt) (fi := fi) (la := la) (ra := ra) (ru := ru) (gr := gr) (wi := wi) (sz := sz) (fl := fl) (ve := ve) (mi := mi) (na := na) (nl := nl) (K := K) (N := N) (O := O) (RR := RR) (nr := nr) (s := f_subject) (by_ := by_) (co := co) (re := re) (ho := ho) (n := n) (C := C) (Rs := Rs) (H := H) (mc := mc) (a := f_marks) (sp := f_spans) (wk := wk_k) (mk := mk212) (stk := stk_k) (w := w210) (df := p) (dp := dp_k) (fo := fo_k) (fy := fy211) (hw := hw) (stp := stp_k) (SP := SP) (WK := WK_k) (M := M214) (SK := SK_k) (nm := nm213) (ns := ns) (p := p) (v9 := v9_) hf_marks hf_spans hwk_k hmk212 hstk_k hq hki hne hot hra hf_subject hco hre hho (by omega) hp hr (by omega) hsu (by omega) (by omega) (by omega) (by omega) (by omega) (by omega) hst_k (by omega) (by omega) jsp (by omega) (by omega) hpm_ (ddC_0 (by omega)) (by omega)) (fun oc G2 h => by rcases h with ⟨_, _, _, _, _, _, _, _, _, _, _, h, _⟩ | ⟨_, _, _, _, _, _, _, _, _, _, _, _, h, _⟩ <;> exact ⟨_, h⟩) (by omega) m_MK_find ml_PW_251 im_MK_find se_MK_find c_MK hf_marks.2.2 (Nat.le_of_ble_eq_true rfl) d_PW_run_115 rfl ?_
  intro v G23 hq
  rcases hq with ⟨o24, df225, dp226, fo227, st228, sk229, ns230, WK231, M232, SK233, SP234, hv, hfk, hNf_marks, hNf_spans, hNwk_k, hNmk212, hNsk229, hq35, hq36, hq37, hq38, hq39, hq40, hq41, hq42⟩ | ⟨o43, df244, dp245, fo246, st247, sk248, ns249, WK250, M251, SK252, SP253, r54, hv, hfk, hNf_marks, hNf_spans, hNwk_k, hNmk212, hNsk248, hq55, hq56, hq57, hq58, hq59, hq60, hq61, hq62, hq63, hq64, hq65, hq66, hq67⟩
  · cases hv
    have hw_ := hfk.get hw_ (by decide)
    have h17 := hfk.get h17 (by decide)
    have hq := hfk.get hq (by simp only [List.mem_cons, List.not_mem_nil, or_false]; omega)
    have hki := hfk.get hki (by simp only [List.mem_cons, List.not_mem_nil, or_false]; omega)
    have hne := hfk.get hne (by simp only [List.mem_cons, List.not_mem_nil, or_false]; omega)
    have hot := hfk.get hot (by simp only [List.mem_cons, List.not_mem_nil, or_false]; omega)
    have hra := hfk.get hra (by simp only [List.mem_cons, List.not_mem_nil, or_false]; omega)
    have hna := hfk.get hna (by simp only [List.mem_cons, List.not_mem_nil, or_false]; omega)
    have hnl := hfk.get hnl (by simp only [List.mem_cons, List.not_mem_nil, or_false]; omega)
    have hf_subject := hfk.get hf_subject (by decide)
    have hby_ := hfk.get hby_ (by decide)
    have hco := hfk.get hco (by decide)
    have hre := hfk.get hre (by decide)
    have hho := hfk.get hho (by decide)
    have hfr := hfr.tr hfk (by decide)
    have hq68 := hfk.1
    have hf_marks := hNf_marks
    have hf_spans := hNf_spans
    have hwk_k := hNwk_k
    have hmk212 := hNmk212
    have hsk229 := hNsk229
    change ab_W _ _ _ G23 118 [some (vR w_), some (vR q), some (vz hw), some (vz 0), some (vz p)] [vz (-1)] _
    have pmkI_f_marks : mkI o24 G23 f_marks nm213 ns230 := ⟨wk_k, mk212, sk229, w210, df225, dp226, fo227, fy211, hw, st228, WK231, M232, SK233, vR f_spans, vR q, vR f_subject, hf_marks, hwk_k, hmk212, hsk229, (by omega), hq36, (by omega)⟩
    have hmq_ : onq mi on := hmi
    have ppgB_q : pgB o24 G23 q lq nr cv cmp on mi := ⟨ki, ne, ot, cnt, fi, la, ra, ru, gr, wi, sz, fl, ve, na, nl, K, N, O, RR, NA, NL, hq, hki, hne, hot, hra, hna, hnl, (by omega), hpu, hp, hr, hch, (by omega), (by omega), (by omega), (by omega), (by omega), hpo, hmq_, (by omega), (by omega), jnl, hiv, hmn, jna, hla, hpv, (by omega)⟩
    have psuI_f_subject : suI o24 G23 f_subject n m f := ⟨by_, co, re, ho, C, Rs, H, mc, hf_subject, hby_, hco, hre, hho, (by omega), hsu⟩
    refine zz_iret rfl d_PW_run_118 ?_
    rw [hQ]; exact ⟨_, _, _, _, _, rfl, hfr, hf_spans, pmkI_f_marks, psuI_f_subject, ppgB_q, (by exact ⟨v9_, _, _, _, _, hmv_, hpm_.wp, hq19, hq42, by omega⟩), (by omega), (by exact hq38), (by omega), (by omega)⟩
  · cases hv
    have hw_ := hfk.get hw_ (by decide)
    have h17 := hfk.get h17 (by decide)
    have hq := hfk.get hq (by simp only [List.mem_cons, List.not_mem_nil, or_false]; omega)
    have hki := hfk.get hki (by simp only [List.mem_cons, List.not_mem_nil, or_false]; omega)
    have hne := hfk.get hne (by simp only [List.mem_cons, List.not_mem_nil, or_false]; omega)
    have hot := hfk.get hot (by simp only [List.mem_cons, List.not_mem_nil, or_false]; omega)
    have hra := hfk.get hra (by simp only [List.mem_cons, List.not_mem_nil, or_false]; omega)
    have hna := hfk.get hna (by simp only [List.mem_cons, List.not_mem_nil, or_false]; omega)
    have hnl := hfk.get hnl (by simp only [List.mem_cons, List.not_mem_nil, or_false]; omega)
    have hf_subject := hfk.get hf_subject (by decide)
    have hby_ := hfk.get hby_ (by decide)
    have hco := hfk.get hco (by decide)
    have hre := hfk.get hre (by decide)
    have hho := hfk.get hho (by decide)
    have hfr := hfr.tr hfk (by decide)
    have hq69 := hfk.1
    have hf_marks := hNf_marks
    have hf_spans := hNf_spans
    have hwk_k := hNwk_k
    have hmk212 := hNmk212
    have hsk248 := hNsk248
    change ab_W _ _ _ G23 118 [some (vR w_), some (vR q), some (vz hw), some (vz 0), some (vz p)] [vz r54] _
    have pmkI_f_marks : mkI o43 G23 f_marks nm213 ns249 := ⟨wk_k, mk212, sk248, w210, df244, dp245, fo246, fy211, hw, st247, WK250, M251, SK252, vR f_spans, vR q, vR f_subject, hf_marks, hwk_k, hmk212, hsk248, (by omega), hq56, (by omega)⟩
    have hmq_ : onq mi on := hmi
    have ppgB_q : pgB o43 G23 q lq nr cv cmp on mi := ⟨ki, ne, ot, cnt, fi, la, ra, ru, gr, wi, sz, fl, ve, na, nl, K, N, O, RR, NA, NL, hq, hki, hne, hot, hra, hna, hnl, (by omega), hpu, hp, hr, hch, (by omega), (by omega), (by omega), (by omega), (by omega), hpo, hmq_, (by omega), (by omega), jnl, hiv, hmn, jna, hla, hpv, (by omega)⟩
    have psuI_f_subject : suI o43 G23 f_subject n m f := ⟨by_, co, re, ho, C, Rs, H, mc, hf_subject, hby_, hco, hre, hho, (by omega), hsu⟩
    refine zz_iret rfl d_PW_run_118 ?_
    rw [hQ]; exact ⟨_, _, _, _, _, rfl, hfr, hf_spans, pmkI_f_marks, psuI_f_subject, ppgB_q, (by exact ⟨v9_, _, _, _, _, hmv_, hpm_.wp, hq19, hq66, by omega⟩), (by omega), (by exact hq58), (by omega), (by omega)⟩
