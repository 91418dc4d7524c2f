set_option maxRecDepth 100000 in
set_option maxHeartbeats 4000000 in
theorem z_PW_run {X : ab_X} {d : Nat} {o : Nat → Nat} {G : ab_G} {w_ : Nat} {f_ready : Nat} {f_tape : Nat} {f_reader : Nat} {f_programs : Nat} {f_subject : Nat} {f_spans : Nat} {f_threads : Nat} {f_marks : Nat} {f_oneMind : Nat} {f_states : Nat} {f_latest : Nat} {f_matches : Nat} {f_pieces : Nat} {f_template : Nat} {f_result : Nat} {f_spare : Nat} {cmp : Int} {ovs : Int} {q : Nat} {lq : Nat} {nr : Nat} {cv : Int → Int} {on : Nat} {mi : Int} {nm : Nat} {ns : Nat} {nt : Nat} {n : Int} {m : Nat} {SP : Int → Int} {hw : Int} {mch : Int} {p : Int} {stt : Int} {stm : Int} {sto : Int} {sts : Int} {sz : Int} (hw_ : cc o G w_ 18 (ab_ob 0 [vR f_ready, vR f_tape, vR f_reader, vR f_programs, vR f_subject, vR f_spans, vR f_threads, vR f_marks, vR f_oneMind, vR f_states, vR f_latest, vR f_matches, vR f_pieces, vR f_template, vR f_result, vR f_spare, vz cmp, vz ovs])) (hf_spans : cc o G f_spans 31 (za 20 SP)) (h17 : cc o G 17 17 (za 12 zFC)) (pthI_f_threads : thI o G f_threads stt) (pmkI_f_marks : mkI o G f_marks nm ns stm) (pomI_f_oneMind : omI o G f_oneMind on nt sto) (pstI_f_states : stI o G f_states cv cmp sts) (psuI_f_subject : suI o G f_subject n m) (ppgB_q : pgB o G q lq nr cv cmp on mi sz) (n18 : ab_n0 = 18) (chw : 0 ≤ hw ∧ hw ≤ 2 ∧ 0 ≤ mch ∧ mch ≤ 4 ∧ 0 ≤ p ∧ p ≤ n) (jsp : rgs SP 20 (-1) 2000) (rc : 64 * G.length + 4600000 ≤ 64 * (ab_n0 + room_1.cells) + (64 * nm + 64 * stC ns + nt + onP on)) (rs : ab_slots G + 2360000 ≤ room_1.slots + (zT nm 52026 + stT ns + 2 * nt + onS on)) (hd : 15 ≤ d) : ab_F X d y_PW_run (.code y_PW_run b_PW_run 5 (some (.int))) [vR w_, vR q, vz hw, vz mch, vz p] G (fun oc G2 => ∃ o2 : Nat → Nat, ∃ nm2 : Nat, ∃ ns2 : Nat, ∃ on2 : Nat, ∃ nt2 : Nat, ∃ mi2 : Int, ∃ SP2 : Int → Int, ∃ r : Int, ∃ s1_ : Int, ∃ s2_ : Int, ∃ s3_ : Int, ∃ s4_ : Int, oc = .returned (some (vz r)) ∧ fx o o2 [31, 32, 33, 35, 36, 37, 38, 39, 40, 44, 45, 46, 47, 50, 51, 52, 53, 54, 55, 56, 57, 60, 61, 62, 63, 64, 65, 66, 67, 68, lq] G G2 ∧ cc o2 G2 f_spans 31 (za 20 SP2) ∧ thI o2 G2 f_threads s1_ ∧ mkI o2 G2 f_marks nm2 ns2 s2_ ∧ omI o2 G2 f_oneMind on2 nt2 s3_ ∧ stI o2 G2 f_states cv cmp s4_ ∧ suI o2 G2 f_subject n m ∧ pgB o2 G2 q lq nr cv cmp on2 mi2 sz ∧ (stt ≤ s1_ ∧ stm ≤ s2_ ∧ sto ≤ s3_ ∧ sts ≤ s4_ ∧ s1_ + s2_ + s3_ + s4_ ≤ stt + stm + sto + sts + 9800 * (n + 1) + 3232 * sz + 14544) ∧ (-1 ≤ r ∧ r ≤ n) ∧ (rgs SP2 20 (-1) 2000) ∧ (64 * G2.length + (64 * nm + 64 * stC ns + nt + onP on) ≤ 64 * G.length + (64 * nm2 + 64 * stC ns2 + nt2 + onP on2)) ∧ (ab_slots G2 + (zT nm 52026 + stT ns + 2 * nt + onS on) ≤ ab_slots G + (zT nm2 52026 + stT ns2 + 2 * nt2 + onS on2)) ∧ (onL on on2)) := by
  refine ab_F_of (by decide +kernel) (Nat.le_of_ble_eq_true rfl) ?_
  obtain ⟨Q, hQ⟩ : ∃ z : Outcome → ab_G → Prop, z = (fun oc G2 => ∃ o2 : Nat → Nat, ∃ nm2 : Nat, ∃ ns2 : Nat, ∃ on2 : Nat, ∃ nt2 : Nat, ∃ mi2 : Int, ∃ SP2 : Int → Int, ∃ r : Int, ∃ s1_ : Int, ∃ s2_ : Int, ∃ s3_ : Int, ∃ s4_ : Int, oc = .returned (some (vz r)) ∧ fx o o2 [31, 32, 33, 35, 36, 37, 38, 39, 40, 44, 45, 46, 47, 50, 51, 52, 53, 54, 55, 56, 57, 60, 61, 62, 63, 64, 65, 66, 67, 68, lq] G G2 ∧ cc o2 G2 f_spans 31 (za 20 SP2) ∧ thI o2 G2 f_threads s1_ ∧ mkI o2 G2 f_marks nm2 ns2 s2_ ∧ omI o2 G2 f_oneMind on2 nt2 s3_ ∧ stI o2 G2 f_states cv cmp s4_ ∧ suI o2 G2 f_subject n m ∧ pgB o2 G2 q lq nr cv cmp on2 mi2 sz ∧ (stt ≤ s1_ ∧ stm ≤ s2_ ∧ sto ≤ s3_ ∧ sts ≤ s4_ ∧ s1_ + s2_ + s3_ + s4_ ≤ stt + stm + sto + sts + 9800 * (n + 1) + 3232 * sz + 14544) ∧ (-1 ≤ r ∧ r ≤ n) ∧ (rgs SP2 20 (-1) 2000) ∧ (64 * G2.length + (64 * nm + 64 * stC ns + nt + onP on) ≤ 64 * G.length + (64 * nm2 + 64 * stC ns2 + nt2 + onP on2)) ∧ (ab_slots G2 + (zT nm 52026 + stT ns + 2 * nt + onS on) ≤ ab_slots G + (zT nm2 52026 + stT ns2 + 2 * nt2 + onS on2)) ∧ (onL on on2)) := ⟨_, rfl⟩
  rw [← hQ]
  change ab_W X (ab_pl y_PW_run b_PW_run 5 (some (.int))) d G 0 [some (vR w_), some (vR q), some (vz hw), some (vz mch), some (vz p)] [] Q
  have hfr : fx o o [31, 32, 33, 35, 36, 37, 38, 39, 40, 44, 45, 46, 47, 50, 51, 52, 53, 54, 55, 56, 57, 60, 61, 62, 63, 64, 65, 66, 67, 68, lq] G G := fx.rf
  obtain ⟨ki, ne, ot, cnt, fi, la, ra, ru, gr, wi, fl, ve, na, nl, K, N, O, RR, NA, NL, hq, hki, hne, hot, hra, hna, hnl, cq, hpu, hp, hr, hch, cru, ck9, cfi, cgr, cfl, hpo, hmi, hvc, cve, jnl, csz⟩ := ppgB_q
  obtain ⟨by_, co, re, ho, f, C, Rs, H, mc, hf_subject, hby_, hco, hre, hho, csu, hsu⟩ := psuI_f_subject
  have hq1 := stT_le ns
  have hq2 := stC_le ns
  have hq3 := onP_le on
  have hq4 := onS_le on
  have hnt_ := pomI_f_oneMind.nt
  have hnm_ := pmkI_f_marks.b
  have hzt_ : zT nm 52026 ≤ 156078 := zT_le (c := 52026) (by omega) rfl
  refine ab_iload_n d_PW_run_0 rfl ?_
  refine zz_iconst d_PW_run_1 ?_
  refine zz_icmp_ne (tgt := 25) d_PW_run_2 (by decide) (by omega) (by decide) (fun c5 => ?_) (fun c5 => ?_)
  · refine ab_iload_n d_PW_run_25 rfl ?_
    refine zz_iconst d_PW_run_26 ?_
    refine zz_icmp_ne (tgt := 65) d_PW_run_27 (by decide) (by omega) (by decide) (fun c6 => ?_) (fun c6 => ?_)
    · refine ab_iload_n d_PW_run_65 rfl ?_
      refine zz_iconst d_PW_run_66 ?_
      refine zz_icmp_ne (tgt := 90) d_PW_run_67 (by decide) (by omega) (by decide) (fun c7 => ?_) (fun c7 => ?_)
      · refine ab_aload_n d_PW_run_90 rfl ?_
        refine ab_getf (fs := [vR f_ready, vR f_tape, vR f_reader, vR f_programs, vR f_subject, vR f_spans, vR f_threads, vR f_marks, vR f_oneMind, vR f_states, vR f_latest, vR f_matches, vR f_pieces, vR f_template, vR f_result, vR f_spare, vz cmp, vz ovs]) f_PW_55 d_PW_run_91 hw_.2.2 rfl ?_
        refine ab_aload_n d_PW_run_94 rfl ?_
        refine ab_aload_n d_PW_run_95 rfl ?_
        refine ab_getf (fs := [vR f_ready, vR f_tape, vR f_reader, vR f_programs, vR f_subject, vR f_spans, vR f_threads, vR f_marks, vR f_oneMind, vR f_states, vR f_latest, vR f_matches, vR f_pieces, vR f_template, vR f_result, vR f_spare, vz cmp, vz ovs]) f_PW_38 d_PW_run_96 hw_.2.2 rfl ?_
        refine ab_iload_n d_PW_run_99 rfl ?_
        refine ab_iload d_PW_run_100 rfl ?_
        refine ab_aload_n d_PW_run_102 rfl ?_
        refine ab_getf (fs := [vR f_ready, vR f_tape, vR f_reader, vR f_programs, vR f_subject, vR f_spans, vR f_threads, vR f_marks, vR f_oneMind, vR f_states, vR f_latest, vR f_matches, vR f_pieces, vR f_template, vR f_result, vR f_spare, vz cmp, vz ovs]) f_PW_42 d_PW_run_103 hw_.2.2 rfl ?_
        obtain ⟨wk_k, mk_k, stk_k, w_k, df_k, dp_k, fo_k, fy_k, hw_k, WK_k, M_k, SK_k, sp0_k, q0_k, s0_k, hf_marks, hwk_k, hmk_k, hstk_k, cn_k, hst_k, cfo_k, cst0_k⟩ := pmkI_f_marks
        refine ab_callV (d' := d - 1) (as := [vR q, vR f_subject, vz hw, vz p, vR f_spans]) (st := []) (r := _) (z_MK_begin (o := o) (q := q) (lq := lq) (ki := ki) (ne := ne) (ot := ot) (cnt := cnt) (fi := fi) (la := la) (ra := ra) (ru := ru) (gr := gr) (wi := wi) (sz := sz) (fl := fl) (ve := ve) (mi := mi) (na := na) (nl := nl) (s := f_subject) (by_ := by_) (co := co) (re := re) (ho := ho) (n := n) (a := f_marks) (sp := f_spans) (wk := wk_k) (mk := mk_k) (stk := stk_k) (dp := dp_k) (fo := fo_k) (hw := hw) (stp := stm) (M := M_k) (nm := nm) (q0 := q0_k) (s0 := s0_k) (sp0 := sp0_k) (from_ := p) (hw0 := hw_k) (fy0 := fy_k) (w0 := w_k) (df0 := df_k) hf_marks hmk_k hq hf_subject (by omega) (by omega) (by omega) (by omega) (by omega) (by omega) (by omega)) (fun oc G2 h => by rcases h with ⟨_, _, _, _, _, _, h, _⟩ <;> exact ⟨_, h⟩) (by omega) m_MK_begin ml_PW_189 im_MK_begin se_MK_begin c_MK hf_marks.2.2 (Nat.le_of_ble_eq_true rfl) d_PW_run_106 rfl ?_
        intro v G8 hq
        rcases hq with ⟨o9, w210, fy211, mk212, nm213, M214, hv, hfk, hNf_marks, hNmk212, hq15, hq16, hq17, hq18, hq19, hq20, hq21⟩
        cases hv
        have hw_ := hfk.get hw_ (by decide)
        have hf_spans := hfk.get hf_spans (by decide)
        have h17 := hfk.get h17 (by decide)
        have hq := hfk.get hq (by simp only [List.mem_cons, List.not_mem_nil, or_false]; omega)
        have hki := hfk.get hki (by simp only [List.mem_cons, List.not_mem_nil, or_false]; omega)
        have hne := hfk.get hne (by simp only [List.mem_cons, List.not_mem_nil, or_false]; omega)
        have hot := hfk.get hot (by simp only [List.mem_cons, List.not_mem_nil, or_false]; omega)
        have hra := hfk.get hra (by simp only [List.mem_cons, List.not_mem_nil, or_false]; omega)
        have hna := hfk.get hna (by simp only [List.mem_cons, List.not_mem_nil, or_false]; omega)
        have hnl := hfk.get hnl (by simp only [List.mem_cons, List.not_mem_nil, or_false]; omega)
        have hf_subject := hfk.get hf_subject (by decide)
        have hby_ := hfk.get hby_ (by decide)
        have hco := hfk.get hco (by decide)
        have hre := hfk.get hre (by decide)
        have hho := hfk.get hho (by decide)
        have hwk_k := hfk.get hwk_k (by decide)
        have hstk_k := hfk.get hstk_k (by decide)
        have pthI_f_threads := thI.fr hfk pthI_f_threads (by decide) (by decide) (by decide) (by decide) (by decide) (by decide) (by decide) (by decide)
        have pomI_f_oneMind := omI.fr hfk pomI_f_oneMind (by decide) (by decide) (by decide) (by decide) (by decide) (by decide) (by decide) (by decide)
        have pstI_f_states := stI.fr hfk pstI_f_states (by decide) (by decide) (by decide) (by decide) (by decide) (by decide) (by decide) (by decide) (by decide)
        have hfr := hfr.tr hfk (by simp)
        have hq22 := hfk.1
        have hf_marks := hNf_marks
        have hmk212 := hNmk212
        change ab_W _ _ _ G8 109 [some (vR w_), some (vR q), some (vz hw), some (vz mch), some (vz p)] [] _
        have hub_ := ucn_b (M := M214) (w := w210) (df := p) (n := n) (by omega) (by omega)
        have hzt2_ : zT nm213 52026 ≤ 156078 := zT_le (c := 52026) (by omega) rfl
        refine ab_aload_n d_PW_run_109 rfl ?_
        refine ab_getf (fs := [vR f_ready, vR f_tape, vR f_reader, vR f_programs, vR f_subject, vR f_spans, vR f_threads, vR f_marks, vR f_oneMind, vR f_states, vR f_latest, vR f_matches, vR f_pieces, vR f_template, vR f_result, vR f_spare, vz cmp, vz ovs]) f_PW_55 d_PW_run_110 hw_.2.2 rfl ?_
        refine ab_iload d_PW_run_113 rfl ?_
        refine ab_callV (d' := d - 1) (as := [vz p]) (st := []) (r := _) (z_MK_find (o := o9) (q := q) (lq := lq) (ki := ki) (ne := ne) (ot := ot) (cnt := cnt) (fi := fi) (la := la) (ra := ra) (ru := ru) (gr := gr) (wi := wi) (sz := sz) (fl := fl) (ve := ve) (mi := mi) (na := na) (nl := nl) (K := K) (N := N) (O := O) (RR := RR) (nr := nr) (s := f_subject) (by_ := by_) (co := co) (re := re) (ho := ho) (n := n) (C := C) (Rs := Rs) (H := H) (mc := mc) (a := f_marks) (sp := f_spans) (wk := wk_k) (mk := mk212) (stk := stk_k) (w := w210) (df := p) (dp := dp_k) (fo := fo_k) (fy := fy211) (hw := hw) (stp := stm) (SP := SP) (WK := WK_k) (M := M214) (SK := SK_k) (nm := nm213) (ns := ns) (p := p) hf_marks hf_spans hwk_k hmk212 hstk_k hq hki hne hot hra hf_subject hco hre hho (by omega) hp hr (by omega) hsu (by omega) (by omega) (by omega) (by omega) (by omega) (by omega) hst_k (by omega) (by omega) jsp (by omega) (by omega) (by omega)) (fun oc G2 h => by rcases h with ⟨_, _, _, _, _, _, _, _, _, _, _, h, _⟩ | ⟨_, _, _, _, _, _, _, _, _, _, _, _, h, _⟩ <;> exact ⟨_, h⟩) (by omega) m_MK_find ml_PW_251 im_MK_find se_MK_find c_MK hf_marks.2.2 (Nat.le_of_ble_eq_true rfl) d_PW_run_115 rfl ?_
        intro v G23 hq
        rcases hq with ⟨o24, df225, dp226, fo227, st228, sk229, ns230, WK231, M232, SK233, SP234, hv, hfk, hNf_marks, hNf_spans, hNwk_k, hNmk212, hNsk229, hq35, hq36, hq37, hq38, hq39, hq40, hq41, hq42⟩ | ⟨o43, df244, dp245, fo246, st247, sk248, ns249, WK250, M251, SK252, SP253, r54, hv, hfk, hNf_marks, hNf_spans, hNwk_k, hNmk212, hNsk248, hq55, hq56, hq57, hq58, hq59, hq60, hq61, hq62, hq63, hq64, hq65, hq66⟩
        · cases hv
          have hw_ := hfk.get hw_ (by decide)
          have h17 := hfk.get h17 (by decide)
          have hq := hfk.get hq (by simp only [List.mem_cons, List.not_mem_nil, or_false]; omega)
          have hki := hfk.get hki (by simp only [List.mem_cons, List.not_mem_nil, or_false]; omega)
          have hne := hfk.get hne (by simp only [List.mem_cons, List.not_mem_nil, or_false]; omega)
          have hot := hfk.get hot (by simp only [List.mem_cons, List.not_mem_nil, or_false]; omega)
          have hra := hfk.get hra (by simp only [List.mem_cons, List.not_mem_nil, or_false]; omega)
          have hna := hfk.get hna (by simp only [List.mem_cons, List.not_mem_nil, or_false]; omega)
          have hnl := hfk.get hnl (by simp only [List.mem_cons, List.not_mem_nil, or_false]; omega)
          have hf_subject := hfk.get hf_subject (by decide)
          have hby_ := hfk.get hby_ (by decide)
          have hco := hfk.get hco (by decide)
          have hre := hfk.get hre (by decide)
          have hho := hfk.get hho (by decide)
          have pthI_f_threads := thI.fr hfk pthI_f_threads (by decide) (by decide) (by decide) (by decide) (by decide) (by decide) (by decide) (by decide)
          have pomI_f_oneMind := omI.fr hfk pomI_f_oneMind (by decide) (by decide) (by decide) (by decide) (by decide) (by decide) (by decide) (by decide)
          have pstI_f_states := stI.fr hfk pstI_f_states (by decide) (by decide) (by decide) (by decide) (by decide) (by decide) (by decide) (by decide) (by decide)
          have hfr := hfr.tr hfk (by simp)
          have hq67 := hfk.1
          have hf_marks := hNf_marks
          have hf_spans := hNf_spans
          have hwk_k := hNwk_k
          have hmk212 := hNmk212
          have hsk229 := hNsk229
          change ab_W _ _ _ G23 118 [some (vR w_), some (vR q), some (vz hw), some (vz mch), some (vz p)] [vz (-1)] _
          have hub2_ := ucn_b (M := M232) (w := w210) (df := df225) (n := n) (by omega) (by omega)
          have pmkI_f_marks : mkI o24 G23 f_marks nm213 ns230 st228 := ⟨wk_k, mk212, sk229, w210, df225, dp226, fo227, fy211, hw, WK231, M232, SK233, vR f_spans, vR q, vR f_subject, hf_marks, hwk_k, hmk212, hsk229, (by omega), hq36, (by omega), (by omega)⟩
          have hmq_ : onq mi on := hmi
          have ppgB_q : pgB o24 G23 q lq nr cv cmp on mi sz := ⟨ki, ne, ot, cnt, fi, la, ra, ru, gr, wi, fl, ve, na, nl, K, N, O, RR, NA, NL, hq, hki, hne, hot, hra, hna, hnl, (by omega), hpu, hp, hr, hch, (by omega), (by omega), (by omega), (by omega), (by omega), hpo, hmq_, (by omega), (by omega), jnl, (by omega)⟩
          have psuI_f_subject : suI o24 G23 f_subject n m := ⟨by_, co, re, ho, f, C, Rs, H, mc, hf_subject, hby_, hco, hre, hho, (by omega), hsu⟩
          refine zz_iret rfl d_PW_run_118 ?_
          rw [hQ]; exact ⟨_, _, _, _, _, _, _, _, _, _, _, _, rfl, hfr, hf_spans, pthI_f_threads, pmkI_f_marks, pomI_f_oneMind, pstI_f_states, psuI_f_subject, ppgB_q, (by omega), (by omega), (by exact hq38), (by omega), (by omega), (by first | exact Or.inl rfl | exact Or.inl rfl)⟩
        · cases hv
          have hw_ := hfk.get hw_ (by decide)
          have h17 := hfk.get h17 (by decide)
          have hq := hfk.get hq (by simp only [List.mem_cons, List.not_mem_nil, or_false]; omega)
          have hki := hfk.get hki (by simp only [List.mem_cons, List.not_mem_nil, or_false]; omega)
          have hne := hfk.get hne (by simp only [List.mem_cons, List.not_mem_nil, or_false]; omega)
          have hot := hfk.get hot (by simp only [List.mem_cons, List.not_mem_nil, or_false]; omega)
          have hra := hfk.get hra (by simp only [List.mem_cons, List.not_mem_nil, or_false]; omega)
          have hna := hfk.get hna (by simp only [List.mem_cons, List.not_mem_nil, or_false]; omega)
          have hnl := hfk.get hnl (by simp only [List.mem_cons, List.not_mem_nil, or_false]; omega)
          have hf_subject := hfk.get hf_subject (by decide)
          have hby_ := hfk.get hby_ (by decide)
          have hco := hfk.get hco (by decide)
          have hre := hfk.get hre (by decide)
          have hho := hfk.get hho (by decide)
          have pthI_f_threads := thI.fr hfk pthI_f_threads (by decide) (by decide) (by decide) (by decide) (by decide) (by decide) (by decide) (by decide)
          have pomI_f_oneMind := omI.fr hfk pomI_f_oneMind (by decide) (by decide) (by decide) (by decide) (by decide) (by decide) (by decide) (by decide)
          have pstI_f_states := stI.fr hfk pstI_f_states (by decide) (by decide) (by decide) (by decide) (by decide) (by decide) (by decide) (by decide) (by decide)
          have hfr := hfr.tr hfk (by simp)
          have hq68 := hfk.1
          have hf_marks := hNf_marks
          have hf_spans := hNf_spans
          have hwk_k := hNwk_k
          have hmk212 := hNmk212
          have hsk248 := hNsk248
          change ab_W _ _ _ G23 118 [some (vR w_), some (vR q), some (vz hw), some (vz mch), some (vz p)] [vz r54] _
          have hub2_ := ucn_b (M := M251) (w := w210) (df := df244) (n := n) (by omega) (by omega)
          have pmkI_f_marks : mkI o43 G23 f_marks nm213 ns249 st247 := ⟨wk_k, mk212, sk248, w210, df244, dp245, fo246, fy211, hw, WK250, M251, SK252, vR f_spans, vR q, vR f_subject, hf_marks, hwk_k, hmk212, hsk248, (by omega), hq56, (by omega), (by omega)⟩
          have hmq_ : onq mi on := hmi
          have ppgB_q : pgB o43 G23 q lq nr cv cmp on mi sz := ⟨ki, ne, ot, cnt, fi, la, ra, ru, gr, wi, fl, ve, na, nl, K, N, O, RR, NA, NL, hq, hki, hne, hot, hra, hna, hnl, (by omega), hpu, hp, hr, hch, (by omega), (by omega), (by omega), (by omega), (by omega), hpo, hmq_, (by omega), (by omega), jnl, (by omega)⟩
          have psuI_f_subject : suI o43 G23 f_subject n m := ⟨by_, co, re, ho, f, C, Rs, H, mc, hf_subject, hby_, hco, hre, hho, (by omega), hsu⟩
          refine zz_iret rfl d_PW_run_118 ?_
          rw [hQ]; exact ⟨_, _, _, _, _, _, _, _, _, _, _, _, rfl, hfr, hf_spans, pthI_f_threads, pmkI_f_marks, pomI_f_oneMind, pstI_f_states, psuI_f_subject, ppgB_q, (by omega), (by omega), (by exact hq58), (by omega), (by omega), (by first | exact Or.inl rfl | exact Or.inl rfl)⟩
      · refine ab_aload_n d_PW_run_70 rfl ?_
        refine ab_getf (fs := [vR f_ready, vR f_tape, vR f_reader, vR f_programs, vR f_subject, vR f_spans, vR f_threads, vR f_marks, vR f_oneMind, vR f_states, vR f_latest, vR f_matches, vR f_pieces, vR f_template, vR f_result, vR f_spare, vz cmp, vz ovs]) f_PW_69 d_PW_run_71 hw_.2.2 rfl ?_
        refine ab_aload_n d_PW_run_74 rfl ?_
        refine ab_aload_n d_PW_run_75 rfl ?_
        refine ab_getf (fs := [vR f_ready, vR f_tape, vR f_reader, vR f_programs, vR f_subject, vR f_spans, vR f_threads, vR f_marks, vR f_oneMind, vR f_states, vR f_latest, vR f_matches, vR f_pieces, vR f_template, vR f_result, vR f_spare, vz cmp, vz ovs]) f_PW_38 d_PW_run_76 hw_.2.2 rfl ?_
        refine ab_iload_n d_PW_run_79 rfl ?_
        refine ab_iload d_PW_run_80 rfl ?_
        obtain ⟨cu_s, eg_s, po_s, bg_s, bd_s, sd_s, se__s, stk_s, mst_s, q0_s, vr_s, ro_s, cn_s, ct_s, sc_s, sta_s, arv_s, CU_s, EG_s, PO_s, BG_s, BD_s, SD_s, SE_s, SK_s, hf_states, hcu_s, heg_s, hpo_s, hbg_s, hbd_s, hsd_s, hse__s, hstk_s, jcu_s, ccn_s, cms_s, cvr_s, jbg_s, jpo_s, jbd_s, jeg_s, cro_s, cst0_s⟩ := pstI_f_states
        refine ab_callV (d' := d - 1) (as := [vR q, vR f_subject, vz hw, vz p]) (st := []) (r := _) (z_ST_tell (o := o) (a := f_states) (cu := cu_s) (eg := eg_s) (po := po_s) (bg := bg_s) (bd := bd_s) (sd := sd_s) (se_ := se__s) (stk := stk_s) (mst := mst_s) (q0 := q0_s) (vr := vr_s) (ro := ro_s) (cn := cn_s) (ct := ct_s) (sc := sc_s) (sta := sta_s) (arv := arv_s) (stp := sts) (CU := CU_s) (EG := EG_s) (PO := PO_s) (BG := BG_s) (BD := BD_s) (SD := SD_s) (SE := SE_s) (SK := SK_s) (q := q) (lq := lq) (ki := ki) (ne := ne) (ot := ot) (cnt := cnt) (fi := fi) (la := la) (ra := ra) (ru := ru) (gr := gr) (wi := wi) (sz := sz) (fl := fl) (ve := ve) (mi := mi) (na := na) (nl := nl) (K := K) (N := N) (O := O) (RR := RR) (nr := nr) (s := f_subject) (by_ := by_) (co := co) (re := re) (ho := ho) (n := n) (f := f) (C := C) (Rs := Rs) (m := m) (mc := mc) (p := p) (hw := hw) (vc := (cv vr_s)) hf_states hcu_s heg_s hpo_s hbg_s hbd_s hsd_s hse__s hstk_s h17 hq hki hne hot hra hf_subject hby_ hco hre (by omega) hp hr (by omega) hch jcu_s (by omega) (by omega) (by omega) (fun h => by rw [h]; exact hvc) jbg_s jpo_s jeg_s jbd_s (by omega) (by omega) (by omega) hsu hsu.1 (by omega) (by omega) (by omega) (by omega) (by omega)) (fun oc G2 h => by rcases h with ⟨_, _, _, _, _, _, _, _, _, _, _, _, _, _, _, _, _, h, _⟩ <;> exact ⟨_, h⟩) (by omega) m_ST_tell ml_PW_224 im_ST_tell se_ST_tell c_ST hf_states.2.2 (Nat.le_of_ble_eq_true rfl) d_PW_run_82 rfl ?_
        intro v G69 hq
        rcases hq with ⟨v70, vr271, cn272, ro273, CU274, ct275, sc276, sta277, st278, ar279, EG280, PO281, BG282, BD283, SD284, SE285, SK286, hv, hfk, hlk, hsk, hNf_states, hNcu_s, hNeg_s, hNpo_s, hNbg_s, hNbd_s, hNsd_s, hNse__s, hNstk_s, hq87, hq88, hq89, hq90, hq91, hq92, hq93, hq94, hq95⟩
        cases hv
        have hw_ := hfk.get hw_ (by decide)
        have hf_spans := hfk.get hf_spans (by decide)
        have h17 := hfk.get h17 (by decide)
        have hq := hfk.get hq (by simp only [List.mem_cons, List.not_mem_nil, or_false]; omega)
        have hki := hfk.get hki (by simp only [List.mem_cons, List.not_mem_nil, or_false]; omega)
        have hne := hfk.get hne (by simp only [List.mem_cons, List.not_mem_nil, or_false]; omega)
        have hot := hfk.get hot (by simp only [List.mem_cons, List.not_mem_nil, or_false]; omega)
        have hra := hfk.get hra (by simp only [List.mem_cons, List.not_mem_nil, or_false]; omega)
        have hna := hfk.get hna (by simp only [List.mem_cons, List.not_mem_nil, or_false]; omega)
        have hnl := hfk.get hnl (by simp only [List.mem_cons, List.not_mem_nil, or_false]; omega)
        have hf_subject := hfk.get hf_subject (by decide)
        have hby_ := hfk.get hby_ (by decide)
        have hco := hfk.get hco (by decide)
        have hre := hfk.get hre (by decide)
        have hho := hfk.get hho (by decide)
        have pthI_f_threads := thI.fr hfk pthI_f_threads (by decide) (by decide) (by decide) (by decide) (by decide) (by decide) (by decide) (by decide)
        have pmkI_f_marks := mkI.fr hfk pmkI_f_marks (by decide) (by decide) (by decide) (by decide)
        have pomI_f_oneMind := omI.fr hfk pomI_f_oneMind (by decide) (by decide) (by decide) (by decide) (by decide) (by decide) (by decide) (by decide)
        have hfr := hfr.tr hfk (by simp)
        have hq96 := hlk
        have hq97 := hsk
        have hf_states := hNf_states
        have hcu_s := hNcu_s
        have heg_s := hNeg_s
        have hpo_s := hNpo_s
        have hbg_s := hNbg_s
        have hbd_s := hNbd_s
        have hsd_s := hNsd_s
        have hse__s := hNse__s
        have hstk_s := hNstk_s
        change ab_W _ _ _ G69 85 [some (vR w_), some (vR q), some (vz hw), some (vz mch), some (vz p)] [vz v70] _
        have pstI_f_states : stI o G69 f_states cv cmp st278 := ⟨cu_s, eg_s, po_s, bg_s, bd_s, sd_s, se__s, stk_s, mst_s, vR q, vr271, ro273, cn272, ct275, sc276, sta277, ar279, CU274, EG280, PO281, BG282, BD283, SD284, SE285, SK286, hf_states, hcu_s, heg_s, hpo_s, hbg_s, hbd_s, hsd_s, hse__s, hstk_s, hq93, (by omega), (by omega), (by omega), hq88, (by rw [show vr271 = ve by omega, hvc]; exact hq89), hq90, hq91, (by omega), (by omega)⟩
        refine zz_if_ne (tgt := 90) d_PW_run_85 (by decide) (by omega) (fun c98 => ?_) (fun c98 => ?_)
        · refine ab_aload_n d_PW_run_90 rfl ?_
          refine ab_getf (fs := [vR f_ready, vR f_tape, vR f_reader, vR f_programs, vR f_subject, vR f_spans, vR f_threads, vR f_marks, vR f_oneMind, vR f_states, vR f_latest, vR f_matches, vR f_pieces, vR f_template, vR f_result, vR f_spare, vz cmp, vz ovs]) f_PW_55 d_PW_run_91 hw_.2.2 rfl ?_
          refine ab_aload_n d_PW_run_94 rfl ?_
          refine ab_aload_n d_PW_run_95 rfl ?_
          refine ab_getf (fs := [vR f_ready, vR f_tape, vR f_reader, vR f_programs, vR f_subject, vR f_spans, vR f_threads, vR f_marks, vR f_oneMind, vR f_states, vR f_latest, vR f_matches, vR f_pieces, vR f_template, vR f_result, vR f_spare, vz cmp, vz ovs]) f_PW_38 d_PW_run_96 hw_.2.2 rfl ?_
          refine ab_iload_n d_PW_run_99 rfl ?_
          refine ab_iload d_PW_run_100 rfl ?_
          refine ab_aload_n d_PW_run_102 rfl ?_
          refine ab_getf (fs := [vR f_ready, vR f_tape, vR f_reader, vR f_programs, vR f_subject, vR f_spans, vR f_threads, vR f_marks, vR f_oneMind, vR f_states, vR f_latest, vR f_matches, vR f_pieces, vR f_template, vR f_result, vR f_spare, vz cmp, vz ovs]) f_PW_42 d_PW_run_103 hw_.2.2 rfl ?_
          obtain ⟨wk_k, mk_k, stk_k, w_k, df_k, dp_k, fo_k, fy_k, hw_k, WK_k, M_k, SK_k, sp0_k, q0_k, s0_k, hf_marks, hwk_k, hmk_k, hstk_k, cn_k, hst_k, cfo_k, cst0_k⟩ := pmkI_f_marks
          refine ab_callV (d' := d - 1) (as := [vR q, vR f_subject, vz hw, vz p, vR f_spans]) (st := []) (r := _) (z_MK_begin (o := o) (q := q) (lq := lq) (ki := ki) (ne := ne) (ot := ot) (cnt := cnt) (fi := fi) (la := la) (ra := ra) (ru := ru) (gr := gr) (wi := wi) (sz := sz) (fl := fl) (ve := ve) (mi := mi) (na := na) (nl := nl) (s := f_subject) (by_ := by_) (co := co) (re := re) (ho := ho) (n := n) (a := f_marks) (sp := f_spans) (wk := wk_k) (mk := mk_k) (stk := stk_k) (dp := dp_k) (fo := fo_k) (hw := hw) (stp := stm) (M := M_k) (nm := nm) (q0 := q0_k) (s0 := s0_k) (sp0 := sp0_k) (from_ := p) (hw0 := hw_k) (fy0 := fy_k) (w0 := w_k) (df0 := df_k) hf_marks hmk_k hq hf_subject (by omega) (by omega) (by omega) (by omega) (by omega) (by omega) (by omega)) (fun oc G2 h => by rcases h with ⟨_, _, _, _, _, _, h, _⟩ <;> exact ⟨_, h⟩) (by omega) m_MK_begin ml_PW_189 im_MK_begin se_MK_begin c_MK hf_marks.2.2 (Nat.le_of_ble_eq_true rfl) d_PW_run_106 rfl ?_
          intro v G99 hq
          rcases hq with ⟨o100, w2101, fy2102, mk2103, nm2104, M2105, hv, hfk, hNf_marks, hNmk2103, hq106, hq107, hq108, hq109, hq110, hq111, hq112⟩
          cases hv
          have hw_ := hfk.get hw_ (by decide)
          have hf_spans := hfk.get hf_spans (by decide)
          have h17 := hfk.get h17 (by decide)
          have hq := hfk.get hq (by simp only [List.mem_cons, List.not_mem_nil, or_false]; omega)
          have hki := hfk.get hki (by simp only [List.mem_cons, List.not_mem_nil, or_false]; omega)
          have hne := hfk.get hne (by simp only [List.mem_cons, List.not_mem_nil, or_false]; omega)
          have hot := hfk.get hot (by simp only [List.mem_cons, List.not_mem_nil, or_false]; omega)
          have hra := hfk.get hra (by simp only [List.mem_cons, List.not_mem_nil, or_false]; omega)
          have hna := hfk.get hna (by simp only [List.mem_cons, List.not_mem_nil, or_false]; omega)
          have hnl := hfk.get hnl (by simp only [List.mem_cons, List.not_mem_nil, or_false]; omega)
          have hf_subject := hfk.get hf_subject (by decide)
          have hby_ := hfk.get hby_ (by decide)
          have hco := hfk.get hco (by decide)
          have hre := hfk.get hre (by decide)
          have hho := hfk.get hho (by decide)
          have hwk_k := hfk.get hwk_k (by decide)
          have hstk_k := hfk.get hstk_k (by decide)
          have pthI_f_threads := thI.fr hfk pthI_f_threads (by decide) (by decide) (by decide) (by decide) (by decide) (by decide) (by decide) (by decide)
          have pomI_f_oneMind := omI.fr hfk pomI_f_oneMind (by decide) (by decide) (by decide) (by decide) (by decide) (by decide) (by decide) (by decide)
          have pstI_f_states := stI.fr hfk pstI_f_states (by decide) (by decide) (by decide) (by decide) (by decide) (by decide) (by decide) (by decide) (by decide)
          have hfr := hfr.tr hfk (by simp)
          have hq113 := hfk.1
          have hf_marks := hNf_marks
          have hmk2103 := hNmk2103
          change ab_W _ _ _ G99 109 [some (vR w_), some (vR q), some (vz hw), some (vz mch), some (vz p)] [] _
          have hub_ := ucn_b (M := M2105) (w := w2101) (df := p) (n := n) (by omega) (by omega)
          have hzt2_ : zT nm2104 52026 ≤ 156078 := zT_le (c := 52026) (by omega) rfl
          refine ab_aload_n d_PW_run_109 rfl ?_
          refine ab_getf (fs := [vR f_ready, vR f_tape, vR f_reader, vR f_programs, vR f_subject, vR f_spans, vR f_threads, vR f_marks, vR f_oneMind, vR f_states, vR f_latest, vR f_matches, vR f_pieces, vR f_template, vR f_result, vR f_spare, vz cmp, vz ovs]) f_PW_55 d_PW_run_110 hw_.2.2 rfl ?_
          refine ab_iload d_PW_run_113 rfl ?_
          refine ab_callV (d' := d - 1) (as := [vz p]) (st := []) (r := _) (z_MK_find (o := o100) (q := q) (lq := lq) (ki := ki) (ne := ne) (ot := ot) (cnt := cnt) (fi := fi) (la := la) (ra := ra) (ru := ru) (gr := gr) (wi := wi) (sz := sz) (fl := fl) (ve := ve) (mi := mi) (na := na) (nl := nl) (K := K) (N := N) (O := O) (RR := RR) (nr := nr) (s := f_subject) (by_ := by_) (co := co) (re := re) (ho := ho) (n := n) (C := C) (Rs := Rs) (H := H) (mc := mc) (a := f_marks) (sp := f_spans) (wk := wk_k) (mk := mk2103) (stk := stk_k) (w := w2101) (df := p) (dp := dp_k) (fo := fo_k) (fy := fy2102) (hw := hw) (stp := stm) (SP := SP) (WK := WK_k) (M := M2105) (SK := SK_k) (nm := nm2104) (ns := ns) (p := p) hf_marks hf_spans hwk_k hmk2103 hstk_k hq hki hne hot hra hf_subject hco hre hho (by omega) hp hr (by omega) hsu (by omega) (by omega) (by omega) (by omega) (by omega) (by omega) hst_k (by omega) (by omega) jsp (by omega) (by omega) (by omega)) (fun oc G2 h => by rcases h with ⟨_, _, _, _, _, _, _, _, _, _, _, h, _⟩ | ⟨_, _, _, _, _, _, _, _, _, _, _, _, h, _⟩ <;> exact ⟨_, h⟩) (by omega) m_MK_find ml_PW_251 im_MK_find se_MK_find c_MK hf_marks.2.2 (Nat.le_of_ble_eq_true rfl) d_PW_run_115 rfl ?_
          intro v G114 hq
          rcases hq with ⟨o115, df2116, dp2117, fo2118, st2119, sk2120, ns2121, WK2122, M2123, SK2124, SP2125, hv, hfk, hNf_marks, hNf_spans, hNwk_k, hNmk2103, hNsk2120, hq126, hq127, hq128, hq129, hq130, hq131, hq132, hq133⟩ | ⟨o134, df2135, dp2136, fo2137, st2138, sk2139, ns2140, WK2141, M2142, SK2143, SP2144, r145, hv, hfk, hNf_marks, hNf_spans, hNwk_k, hNmk2103, hNsk2139, hq146, hq147, hq148, hq149, hq150, hq151, hq152, hq153, hq154, hq155, hq156, hq157⟩
          · cases hv
            have hw_ := hfk.get hw_ (by decide)
            have h17 := hfk.get h17 (by decide)
            have hq := hfk.get hq (by simp only [List.mem_cons, List.not_mem_nil, or_false]; omega)
            have hki := hfk.get hki (by simp only [List.mem_cons, List.not_mem_nil, or_false]; omega)
            have hne := hfk.get hne (by simp only [List.mem_cons, List.not_mem_nil, or_false]; omega)
            have hot := hfk.get hot (by simp only [List.mem_cons, List.not_mem_nil, or_false]; omega)
            have hra := hfk.get hra (by simp only [List.mem_cons, List.not_mem_nil, or_false]; omega)
            have hna := hfk.get hna (by simp only [List.mem_cons, List.not_mem_nil, or_false]; omega)
            have hnl := hfk.get hnl (by simp only [List.mem_cons, List.not_mem_nil, or_false]; omega)
            have hf_subject := hfk.get hf_subject (by decide)
            have hby_ := hfk.get hby_ (by decide)
            have hco := hfk.get hco (by decide)
            have hre := hfk.get hre (by decide)
            have hho := hfk.get hho (by decide)
            have pthI_f_threads := thI.fr hfk pthI_f_threads (by decide) (by decide) (by decide) (by decide) (by decide) (by decide) (by decide) (by decide)
            have pomI_f_oneMind := omI.fr hfk pomI_f_oneMind (by decide) (by decide) (by decide) (by decide) (by decide) (by decide) (by decide) (by decide)
            have pstI_f_states := stI.fr hfk pstI_f_states (by decide) (by decide) (by decide) (by decide) (by decide) (by decide) (by decide) (by decide) (by decide)
            have hfr := hfr.tr hfk (by simp)
            have hq158 := hfk.1
            have hf_marks := hNf_marks
            have hf_spans := hNf_spans
            have hwk_k := hNwk_k
            have hmk2103 := hNmk2103
            have hsk2120 := hNsk2120
            change ab_W _ _ _ G114 118 [some (vR w_), some (vR q), some (vz hw), some (vz mch), some (vz p)] [vz (-1)] _
            have hub2_ := ucn_b (M := M2123) (w := w2101) (df := df2116) (n := n) (by omega) (by omega)
            have pmkI_f_marks : mkI o115 G114 f_marks nm2104 ns2121 st2119 := ⟨wk_k, mk2103, sk2120, w2101, df2116, dp2117, fo2118, fy2102, hw, WK2122, M2123, SK2124, vR f_spans, vR q, vR f_subject, hf_marks, hwk_k, hmk2103, hsk2120, (by omega), hq127, (by omega), (by omega)⟩
            have hmq_ : onq mi on := hmi
            have ppgB_q : pgB o115 G114 q lq nr cv cmp on mi sz := ⟨ki, ne, ot, cnt, fi, la, ra, ru, gr, wi, fl, ve, na, nl, K, N, O, RR, NA, NL, hq, hki, hne, hot, hra, hna, hnl, (by omega), hpu, hp, hr, hch, (by omega), (by omega), (by omega), (by omega), (by omega), hpo, hmq_, (by omega), (by omega), jnl, (by omega)⟩
            have psuI_f_subject : suI o115 G114 f_subject n m := ⟨by_, co, re, ho, f, C, Rs, H, mc, hf_subject, hby_, hco, hre, hho, (by omega), hsu⟩
            refine zz_iret rfl d_PW_run_118 ?_
            rw [hQ]; exact ⟨_, _, _, _, _, _, _, _, _, _, _, _, rfl, hfr, hf_spans, pthI_f_threads, pmkI_f_marks, pomI_f_oneMind, pstI_f_states, psuI_f_subject, ppgB_q, (by omega), (by omega), (by exact hq129), (by omega), (by omega), (by first | exact Or.inl rfl | exact Or.inl rfl)⟩
          · cases hv
            have hw_ := hfk.get hw_ (by decide)
            have h17 := hfk.get h17 (by decide)
            have hq := hfk.get hq (by simp only [List.mem_cons, List.not_mem_nil, or_false]; omega)
            have hki := hfk.get hki (by simp only [List.mem_cons, List.not_mem_nil, or_false]; omega)
            have hne := hfk.get hne (by simp only [List.mem_cons, List.not_mem_nil, or_false]; omega)
            have hot := hfk.get hot (by simp only [List.mem_cons, List.not_mem_nil, or_false]; omega)
            have hra := hfk.get hra (by simp only [List.mem_cons, List.not_mem_nil, or_false]; omega)
            have hna := hfk.get hna (by simp only [List.mem_cons, List.not_mem_nil, or_false]; omega)
            have hnl := hfk.get hnl (by simp only [List.mem_cons, List.not_mem_nil, or_false]; omega)
            have hf_subject := hfk.get hf_subject (by decide)
            have hby_ := hfk.get hby_ (by decide)
            have hco := hfk.get hco (by decide)
            have hre := hfk.get hre (by decide)
            have hho := hfk.get hho (by decide)
            have pthI_f_threads := thI.fr hfk pthI_f_threads (by decide) (by decide) (by decide) (by decide) (by decide) (by decide) (by decide) (by decide)
            have pomI_f_oneMind := omI.fr hfk pomI_f_oneMind (by decide) (by decide) (by decide) (by decide) (by decide) (by decide) (by decide) (by decide)
            have pstI_f_states := stI.fr hfk pstI_f_states (by decide) (by decide) (by decide) (by decide) (by decide) (by decide) (by decide) (by decide) (by decide)
            have hfr := hfr.tr hfk (by simp)
            have hq159 := hfk.1
            have hf_marks := hNf_marks
            have hf_spans := hNf_spans
            have hwk_k := hNwk_k
            have hmk2103 := hNmk2103
            have hsk2139 := hNsk2139
            change ab_W _ _ _ G114 118 [some (vR w_), some (vR q), some (vz hw), some (vz mch), some (vz p)] [vz r145] _
            have hub2_ := ucn_b (M := M2142) (w := w2101) (df := df2135) (n := n) (by omega) (by omega)
            have pmkI_f_marks : mkI o134 G114 f_marks nm2104 ns2140 st2138 := ⟨wk_k, mk2103, sk2139, w2101, df2135, dp2136, fo2137, fy2102, hw, WK2141, M2142, SK2143, vR f_spans, vR q, vR f_subject, hf_marks, hwk_k, hmk2103, hsk2139, (by omega), hq147, (by omega), (by omega)⟩
            have hmq_ : onq mi on := hmi
            have ppgB_q : pgB o134 G114 q lq nr cv cmp on mi sz := ⟨ki, ne, ot, cnt, fi, la, ra, ru, gr, wi, fl, ve, na, nl, K, N, O, RR, NA, NL, hq, hki, hne, hot, hra, hna, hnl, (by omega), hpu, hp, hr, hch, (by omega), (by omega), (by omega), (by omega), (by omega), hpo, hmq_, (by omega), (by omega), jnl, (by omega)⟩
            have psuI_f_subject : suI o134 G114 f_subject n m := ⟨by_, co, re, ho, f, C, Rs, H, mc, hf_subject, hby_, hco, hre, hho, (by omega), hsu⟩
            refine zz_iret rfl d_PW_run_118 ?_
            rw [hQ]; exact ⟨_, _, _, _, _, _, _, _, _, _, _, _, rfl, hfr, hf_spans, pthI_f_threads, pmkI_f_marks, pomI_f_oneMind, pstI_f_states, psuI_f_subject, ppgB_q, (by omega), (by omega), (by exact hq149), (by omega), (by omega), (by first | exact Or.inl rfl | exact Or.inl rfl)⟩
        · refine zz_iconst d_PW_run_88 ?_
          have hmq_ : onq mi on := hmi
          have ppgB_q : pgB o G69 q lq nr cv cmp on mi sz := ⟨ki, ne, ot, cnt, fi, la, ra, ru, gr, wi, fl, ve, na, nl, K, N, O, RR, NA, NL, hq, hki, hne, hot, hra, hna, hnl, (by omega), hpu, hp, hr, hch, (by omega), (by omega), (by omega), (by omega), (by omega), hpo, hmq_, (by omega), (by omega), jnl, (by omega)⟩
          have psuI_f_subject : suI o G69 f_subject n m := ⟨by_, co, re, ho, f, C, Rs, H, mc, hf_subject, hby_, hco, hre, hho, (by omega), hsu⟩
          refine zz_iret rfl d_PW_run_89 ?_
          rw [hQ]; exact ⟨_, _, _, _, _, _, _, _, _, _, _, _, rfl, hfr, hf_spans, pthI_f_threads, pmkI_f_marks, pomI_f_oneMind, pstI_f_states, psuI_f_subject, ppgB_q, (by omega), (by omega), (by exact jsp), (by omega), (by omega), (by first | exact Or.inl rfl | exact Or.inl rfl)⟩
    · refine ab_iload_n d_PW_run_30 rfl ?_
      refine zz_if_eq (tgt := 65) d_PW_run_31 (by decide) (by omega) (fun c160 => ?_) (fun c160 => ?_)
      · refine ab_iload_n d_PW_run_65 rfl ?_
        refine zz_iconst d_PW_run_66 ?_
        refine zz_icmp_ne (tgt := 90) d_PW_run_67 (by decide) (by omega) (by decide) (fun c161 => ?_) (fun c161 => absurd c161 (by omega))
        refine ab_aload_n d_PW_run_90 rfl ?_
        refine ab_getf (fs := [vR f_ready, vR f_tape, vR f_reader, vR f_programs, vR f_subject, vR f_spans, vR f_threads, vR f_marks, vR f_oneMind, vR f_states, vR f_latest, vR f_matches, vR f_pieces, vR f_template, vR f_result, vR f_spare, vz cmp, vz ovs]) f_PW_55 d_PW_run_91 hw_.2.2 rfl ?_
        refine ab_aload_n d_PW_run_94 rfl ?_
        refine ab_aload_n d_PW_run_95 rfl ?_
        refine ab_getf (fs := [vR f_ready, vR f_tape, vR f_reader, vR f_programs, vR f_subject, vR f_spans, vR f_threads, vR f_marks, vR f_oneMind, vR f_states, vR f_latest, vR f_matches, vR f_pieces, vR f_template, vR f_result, vR f_spare, vz cmp, vz ovs]) f_PW_38 d_PW_run_96 hw_.2.2 rfl ?_
        refine ab_iload_n d_PW_run_99 rfl ?_
        refine ab_iload d_PW_run_100 rfl ?_
        refine ab_aload_n d_PW_run_102 rfl ?_
        refine ab_getf (fs := [vR f_ready, vR f_tape, vR f_reader, vR f_programs, vR f_subject, vR f_spans, vR f_threads, vR f_marks, vR f_oneMind, vR f_states, vR f_latest, vR f_matches, vR f_pieces, vR f_template, vR f_result, vR f_spare, vz cmp, vz ovs]) f_PW_42 d_PW_run_103 hw_.2.2 rfl ?_
        obtain ⟨wk_k, mk_k, stk_k, w_k, df_k, dp_k, fo_k, fy_k, hw_k, WK_k, M_k, SK_k, sp0_k, q0_k, s0_k, hf_marks, hwk_k, hmk_k, hstk_k, cn_k, hst_k, cfo_k, cst0_k⟩ := pmkI_f_marks
        refine ab_callV (d' := d - 1) (as := [vR q, vR f_subject, vz hw, vz p, vR f_spans]) (st := []) (r := _) (z_MK_begin (o := o) (q := q) (lq := lq) (ki := ki) (ne := ne) (ot := ot) (cnt := cnt) (fi := fi) (la := la) (ra := ra) (ru := ru) (gr := gr) (wi := wi) (sz := sz) (fl := fl) (ve := ve) (mi := mi) (na := na) (nl := nl) (s := f_subject) (by_ := by_) (co := co) (re := re) (ho := ho) (n := n) (a := f_marks) (sp := f_spans) (wk := wk_k) (mk := mk_k) (stk := stk_k) (dp := dp_k) (fo := fo_k) (hw := hw) (stp := stm) (M := M_k) (nm := nm) (q0 := q0_k) (s0 := s0_k) (sp0 := sp0_k) (from_ := p) (hw0 := hw_k) (fy0 := fy_k) (w0 := w_k) (df0 := df_k) hf_marks hmk_k hq hf_subject (by omega) (by omega) (by omega) (by omega) (by omega) (by omega) (by omega)) (fun oc G2 h => by rcases h with ⟨_, _, _, _, _, _, h, _⟩ <;> exact ⟨_, h⟩) (by omega) m_MK_begin ml_PW_189 im_MK_begin se_MK_begin c_MK hf_marks.2.2 (Nat.le_of_ble_eq_true rfl) d_PW_run_106 rfl ?_
        intro v G162 hq
        rcases hq with ⟨o163, w2164, fy2165, mk2166, nm2167, M2168, hv, hfk, hNf_marks, hNmk2166, hq169, hq170, hq171, hq172, hq173, hq174, hq175⟩
        cases hv
        have hw_ := hfk.get hw_ (by decide)
        have hf_spans := hfk.get hf_spans (by decide)
        have h17 := hfk.get h17 (by decide)
        have hq := hfk.get hq (by simp only [List.mem_cons, List.not_mem_nil, or_false]; omega)
        have hki := hfk.get hki (by simp only [List.mem_cons, List.not_mem_nil, or_false]; omega)
        have hne := hfk.get hne (by simp only [List.mem_cons, List.not_mem_nil, or_false]; omega)
        have hot := hfk.get hot (by simp only [List.mem_cons, List.not_mem_nil, or_false]; omega)
        have hra := hfk.get hra (by simp only [List.mem_cons, List.not_mem_nil, or_false]; omega)
        have hna := hfk.get hna (by simp only [List.mem_cons, List.not_mem_nil, or_false]; omega)
        have hnl := hfk.get hnl (by simp only [List.mem_cons, List.not_mem_nil, or_false]; omega)
        have hf_subject := hfk.get hf_subject (by decide)
        have hby_ := hfk.get hby_ (by decide)
        have hco := hfk.get hco (by decide)
        have hre := hfk.get hre (by decide)
        have hho := hfk.get hho (by decide)
        have hwk_k := hfk.get hwk_k (by decide)
        have hstk_k := hfk.get hstk_k (by decide)
        have pthI_f_threads := thI.fr hfk pthI_f_threads (by decide) (by decide) (by decide) (by decide) (by decide) (by decide) (by decide) (by decide)
        have pomI_f_oneMind := omI.fr hfk pomI_f_oneMind (by decide) (by decide) (by decide) (by decide) (by decide) (by decide) (by decide) (by decide)
        have pstI_f_states := stI.fr hfk pstI_f_states (by decide) (by decide) (by decide) (by decide) (by decide) (by decide) (by decide) (by decide) (by decide)
        have hfr := hfr.tr hfk (by simp)
        have hq176 := hfk.1
        have hf_marks := hNf_marks
        have hmk2166 := hNmk2166
        change ab_W _ _ _ G162 109 [some (vR w_), some (vR q), some (vz hw), some (vz mch), some (vz p)] [] _
        have hub_ := ucn_b (M := M2168) (w := w2164) (df := p) (n := n) (by omega) (by omega)
        have hzt2_ : zT nm2167 52026 ≤ 156078 := zT_le (c := 52026) (by omega) rfl
        refine ab_aload_n d_PW_run_109 rfl ?_
        refine ab_getf (fs := [vR f_ready, vR f_tape, vR f_reader, vR f_programs, vR f_subject, vR f_spans, vR f_threads, vR f_marks, vR f_oneMind, vR f_states, vR f_latest, vR f_matches, vR f_pieces, vR f_template, vR f_result, vR f_spare, vz cmp, vz ovs]) f_PW_55 d_PW_run_110 hw_.2.2 rfl ?_
        refine ab_iload d_PW_run_113 rfl ?_
        refine ab_callV (d' := d - 1) (as := [vz p]) (st := []) (r := _) (z_MK_find (o := o163) (q := q) (lq := lq) (ki := ki) (ne := ne) (ot := ot) (cnt := cnt) (fi := fi) (la := la) (ra := ra) (ru := ru) (gr := gr) (wi := wi) (sz := sz) (fl := fl) (ve := ve) (mi := mi) (na := na) (nl := nl) (K := K) (N := N) (O := O) (RR := RR) (nr := nr) (s := f_subject) (by_ := by_) (co := co) (re := re) (ho := ho) (n := n) (C := C) (Rs := Rs) (H := H) (mc := mc) (a := f_marks) (sp := f_spans) (wk := wk_k) (mk := mk2166) (stk := stk_k) (w := w2164) (df := p) (dp := dp_k) (fo := fo_k) (fy := fy2165) (hw := hw) (stp := stm) (SP := SP) (WK := WK_k) (M := M2168) (SK := SK_k) (nm := nm2167) (ns := ns) (p := p) hf_marks hf_spans hwk_k hmk2166 hstk_k hq hki hne hot hra hf_subject hco hre hho (by omega) hp hr (by omega) hsu (by omega) (by omega) (by omega) (by omega) (by omega) (by omega) hst_k (by omega) (by omega) jsp (by omega) (by omega) (by omega)) (fun oc G2 h => by rcases h with ⟨_, _, _, _, _, _, _, _, _, _, _, h, _⟩ | ⟨_, _, _, _, _, _, _, _, _, _, _, _, h, _⟩ <;> exact ⟨_, h⟩) (by omega) m_MK_find ml_PW_251 im_MK_find se_MK_find c_MK hf_marks.2.2 (Nat.le_of_ble_eq_true rfl) d_PW_run_115 rfl ?_
        intro v G177 hq
        rcases hq with ⟨o178, df2179, dp2180, fo2181, st2182, sk2183, ns2184, WK2185, M2186, SK2187, SP2188, hv, hfk, hNf_marks, hNf_spans, hNwk_k, hNmk2166, hNsk2183, hq189, hq190, hq191, hq192, hq193, hq194, hq195, hq196⟩ | ⟨o197, df2198, dp2199, fo2200, st2201, sk2202, ns2203, WK2204, M2205, SK2206, SP2207, r208, hv, hfk, hNf_marks, hNf_spans, hNwk_k, hNmk2166, hNsk2202, hq209, hq210, hq211, hq212, hq213, hq214, hq215, hq216, hq217, hq218, hq219, hq220⟩
        · cases hv
          have hw_ := hfk.get hw_ (by decide)
          have h17 := hfk.get h17 (by decide)
          have hq := hfk.get hq (by simp only [List.mem_cons, List.not_mem_nil, or_false]; omega)
          have hki := hfk.get hki (by simp only [List.mem_cons, List.not_mem_nil, or_false]; omega)
          have hne := hfk.get hne (by simp only [List.mem_cons, List.not_mem_nil, or_false]; omega)
          have hot := hfk.get hot (by simp only [List.mem_cons, List.not_mem_nil, or_false]; omega)
          have hra := hfk.get hra (by simp only [List.mem_cons, List.not_mem_nil, or_false]; omega)
          have hna := hfk.get hna (by simp only [List.mem_cons, List.not_mem_nil, or_false]; omega)
          have hnl := hfk.get hnl (by simp only [List.mem_cons, List.not_mem_nil, or_false]; omega)
          have hf_subject := hfk.get hf_subject (by decide)
          have hby_ := hfk.get hby_ (by decide)
          have hco := hfk.get hco (by decide)
          have hre := hfk.get hre (by decide)
          have hho := hfk.get hho (by decide)
          have pthI_f_threads := thI.fr hfk pthI_f_threads (by decide) (by decide) (by decide) (by decide) (by decide) (by decide) (by decide) (by decide)
          have pomI_f_oneMind := omI.fr hfk pomI_f_oneMind (by decide) (by decide) (by decide) (by decide) (by decide) (by decide) (by decide) (by decide)
          have pstI_f_states := stI.fr hfk pstI_f_states (by decide) (by decide) (by decide) (by decide) (by decide) (by decide) (by decide) (by decide) (by decide)
          have hfr := hfr.tr hfk (by simp)
          have hq221 := hfk.1
          have hf_marks := hNf_marks
          have hf_spans := hNf_spans
          have hwk_k := hNwk_k
          have hmk2166 := hNmk2166
          have hsk2183 := hNsk2183
          change ab_W _ _ _ G177 118 [some (vR w_), some (vR q), some (vz hw), some (vz mch), some (vz p)] [vz (-1)] _
          have hub2_ := ucn_b (M := M2186) (w := w2164) (df := df2179) (n := n) (by omega) (by omega)
          have pmkI_f_marks : mkI o178 G177 f_marks nm2167 ns2184 st2182 := ⟨wk_k, mk2166, sk2183, w2164, df2179, dp2180, fo2181, fy2165, hw, WK2185, M2186, SK2187, vR f_spans, vR q, vR f_subject, hf_marks, hwk_k, hmk2166, hsk2183, (by omega), hq190, (by omega), (by omega)⟩
          have hmq_ : onq mi on := hmi
          have ppgB_q : pgB o178 G177 q lq nr cv cmp on mi sz := ⟨ki, ne, ot, cnt, fi, la, ra, ru, gr, wi, fl, ve, na, nl, K, N, O, RR, NA, NL, hq, hki, hne, hot, hra, hna, hnl, (by omega), hpu, hp, hr, hch, (by omega), (by omega), (by omega), (by omega), (by omega), hpo, hmq_, (by omega), (by omega), jnl, (by omega)⟩
          have psuI_f_subject : suI o178 G177 f_subject n m := ⟨by_, co, re, ho, f, C, Rs, H, mc, hf_subject, hby_, hco, hre, hho, (by omega), hsu⟩
          refine zz_iret rfl d_PW_run_118 ?_
          rw [hQ]; exact ⟨_, _, _, _, _, _, _, _, _, _, _, _, rfl, hfr, hf_spans, pthI_f_threads, pmkI_f_marks, pomI_f_oneMind, pstI_f_states, psuI_f_subject, ppgB_q, (by omega), (by omega), (by exact hq192), (by omega), (by omega), (by first | exact Or.inl rfl | exact Or.inl rfl)⟩
        · cases hv
          have hw_ := hfk.get hw_ (by decide)
          have h17 := hfk.get h17 (by decide)
          have hq := hfk.get hq (by simp only [List.mem_cons, List.not_mem_nil, or_false]; omega)
          have hki := hfk.get hki (by simp only [List.mem_cons, List.not_mem_nil, or_false]; omega)
          have hne := hfk.get hne (by simp only [List.mem_cons, List.not_mem_nil, or_false]; omega)
          have hot := hfk.get hot (by simp only [List.mem_cons, List.not_mem_nil, or_false]; omega)
          have hra := hfk.get hra (by simp only [List.mem_cons, List.not_mem_nil, or_false]; omega)
          have hna := hfk.get hna (by simp only [List.mem_cons, List.not_mem_nil, or_false]; omega)
          have hnl := hfk.get hnl (by simp only [List.mem_cons, List.not_mem_nil, or_false]; omega)
          have hf_subject := hfk.get hf_subject (by decide)
          have hby_ := hfk.get hby_ (by decide)
          have hco := hfk.get hco (by decide)
          have hre := hfk.get hre (by decide)
          have hho := hfk.get hho (by decide)
          have pthI_f_threads := thI.fr hfk pthI_f_threads (by decide) (by decide) (by decide) (by decide) (by decide) (by decide) (by decide) (by decide)
          have pomI_f_oneMind := omI.fr hfk pomI_f_oneMind (by decide) (by decide) (by decide) (by decide) (by decide) (by decide) (by decide) (by decide)
          have pstI_f_states := stI.fr hfk pstI_f_states (by decide) (by decide) (by decide) (by decide) (by decide) (by decide) (by decide) (by decide) (by decide)
          have hfr := hfr.tr hfk (by simp)
          have hq222 := hfk.1
          have hf_marks := hNf_marks
          have hf_spans := hNf_spans
          have hwk_k := hNwk_k
          have hmk2166 := hNmk2166
          have hsk2202 := hNsk2202
          change ab_W _ _ _ G177 118 [some (vR w_), some (vR q), some (vz hw), some (vz mch), some (vz p)] [vz r208] _
          have hub2_ := ucn_b (M := M2205) (w := w2164) (df := df2198) (n := n) (by omega) (by omega)
          have pmkI_f_marks : mkI o197 G177 f_marks nm2167 ns2203 st2201 := ⟨wk_k, mk2166, sk2202, w2164, df2198, dp2199, fo2200, fy2165, hw, WK2204, M2205, SK2206, vR f_spans, vR q, vR f_subject, hf_marks, hwk_k, hmk2166, hsk2202, (by omega), hq210, (by omega), (by omega)⟩
          have hmq_ : onq mi on := hmi
          have ppgB_q : pgB o197 G177 q lq nr cv cmp on mi sz := ⟨ki, ne, ot, cnt, fi, la, ra, ru, gr, wi, fl, ve, na, nl, K, N, O, RR, NA, NL, hq, hki, hne, hot, hra, hna, hnl, (by omega), hpu, hp, hr, hch, (by omega), (by omega), (by omega), (by omega), (by omega), hpo, hmq_, (by omega), (by omega), jnl, (by omega)⟩
          have psuI_f_subject : suI o197 G177 f_subject n m := ⟨by_, co, re, ho, f, C, Rs, H, mc, hf_subject, hby_, hco, hre, hho, (by omega), hsu⟩
          refine zz_iret rfl d_PW_run_118 ?_
          rw [hQ]; exact ⟨_, _, _, _, _, _, _, _, _, _, _, _, rfl, hfr, hf_spans, pthI_f_threads, pmkI_f_marks, pomI_f_oneMind, pstI_f_states, psuI_f_subject, ppgB_q, (by omega), (by omega), (by exact hq212), (by omega), (by omega), (by first | exact Or.inl rfl | exact Or.inl rfl)⟩
      · refine ab_aload_n d_PW_run_34 rfl ?_
        refine ab_getf (fs := [vR f_ready, vR f_tape, vR f_reader, vR f_programs, vR f_subject, vR f_spans, vR f_threads, vR f_marks, vR f_oneMind, vR f_states, vR f_latest, vR f_matches, vR f_pieces, vR f_template, vR f_result, vR f_spare, vz cmp, vz ovs]) f_PW_62 d_PW_run_35 hw_.2.2 rfl ?_
        refine ab_aload_n d_PW_run_38 rfl ?_
        obtain ⟨fsR, hR⟩ := pomI_f_oneMind.recv
        refine ab_callV (d' := d - 1) (as := [vR q]) (st := []) (r := _) (z_OM_suits (o := o) (a := f_oneMind) (on := on) (nt := nt) (q := q) (lq := lq) (ki := ki) (ne := ne) (ot := ot) (cnt := cnt) (fi := fi) (la := la) (ra := ra) (ru := ru) (gr := gr) (wi := wi) (sz := sz) (fl := fl) (ve := ve) (mi := mi) (na := na) (nl := nl) (K := K) (N := N) (O := O) (RR := RR) (nr := nr) (sto := sto) hq hki hne hot hra pomI_f_oneMind (by omega) (by omega) hpu hp hr (by omega) (by omega) (by omega) (by omega) hpo hmi (by omega) (by omega) (by omega)) (fun oc G2 h => by rcases h with ⟨_, _, _, _, _, h, _⟩ | ⟨_, _, _, _, _, h, _⟩ <;> exact ⟨_, h⟩) (by omega) m_OM_suits ml_PW_247 im_OM_suits se_OM_suits c_OM hR (Nat.le_of_ble_eq_true rfl) d_PW_run_39 rfl ?_
        intro v G223 hq
        rcases hq with ⟨o224, on2225, nt2226, mi2227, so2228, hv, hfk, hNq, hNki, hNne, hNot, hNra, pNomI_f_oneMind, hq229, hq230, hq231, hq232, hq233, hq234, hq235⟩ | ⟨o236, on2237, nt2238, mi2239, so2240, hv, hfk, hNq, hNki, hNne, hNot, hNra, pNomI_f_oneMind, hq241, hq242, hq243, hq244, hq245, hq246, hq247, hq248, hq249⟩
        · cases hv
          have hw_ := hfk.get hw_ (by simp only [List.mem_cons, List.not_mem_nil, or_false]; omega)
          have hf_spans := hfk.get hf_spans (by simp only [List.mem_cons, List.not_mem_nil, or_false]; omega)
          have h17 := hfk.get h17 (by simp only [List.mem_cons, List.not_mem_nil, or_false]; omega)
          have hna := hfk.get hna (by simp only [List.mem_cons, List.not_mem_nil, or_false]; omega)
          have hnl := hfk.get hnl (by simp only [List.mem_cons, List.not_mem_nil, or_false]; omega)
          have hf_subject := hfk.get hf_subject (by simp only [List.mem_cons, List.not_mem_nil, or_false]; omega)
          have hby_ := hfk.get hby_ (by simp only [List.mem_cons, List.not_mem_nil, or_false]; omega)
          have hco := hfk.get hco (by simp only [List.mem_cons, List.not_mem_nil, or_false]; omega)
          have hre := hfk.get hre (by simp only [List.mem_cons, List.not_mem_nil, or_false]; omega)
          have hho := hfk.get hho (by simp only [List.mem_cons, List.not_mem_nil, or_false]; omega)
          have pthI_f_threads := thI.fr hfk pthI_f_threads (by simp only [List.mem_cons, List.not_mem_nil, or_false]; omega) (by simp only [List.mem_cons, List.not_mem_nil, or_false]; omega) (by simp only [List.mem_cons, List.not_mem_nil, or_false]; omega) (by simp only [List.mem_cons, List.not_mem_nil, or_false]; omega) (by simp only [List.mem_cons, List.not_mem_nil, or_false]; omega) (by simp only [List.mem_cons, List.not_mem_nil, or_false]; omega) (by simp only [List.mem_cons, List.not_mem_nil, or_false]; omega) (by simp only [List.mem_cons, List.not_mem_nil, or_false]; omega)
          have pmkI_f_marks := mkI.fr hfk pmkI_f_marks (by simp only [List.mem_cons, List.not_mem_nil, or_false]; omega) (by simp only [List.mem_cons, List.not_mem_nil, or_false]; omega) (by simp only [List.mem_cons, List.not_mem_nil, or_false]; omega) (by simp only [List.mem_cons, List.not_mem_nil, or_false]; omega)
          have pstI_f_states := stI.fr hfk pstI_f_states (by simp only [List.mem_cons, List.not_mem_nil, or_false]; omega) (by simp only [List.mem_cons, List.not_mem_nil, or_false]; omega) (by simp only [List.mem_cons, List.not_mem_nil, or_false]; omega) (by simp only [List.mem_cons, List.not_mem_nil, or_false]; omega) (by simp only [List.mem_cons, List.not_mem_nil, or_false]; omega) (by simp only [List.mem_cons, List.not_mem_nil, or_false]; omega) (by simp only [List.mem_cons, List.not_mem_nil, or_false]; omega) (by simp only [List.mem_cons, List.not_mem_nil, or_false]; omega) (by simp only [List.mem_cons, List.not_mem_nil, or_false]; omega)
          have pomI_f_oneMind := pNomI_f_oneMind
          have hfr := hfr.tr hfk (by simp)
          have hq250 := hfk.1
          have hq := hNq
          have hki := hNki
          have hne := hNne
          have hot := hNot
          have hra := hNra
          change ab_W _ _ _ G223 42 [some (vR w_), some (vR q), some (vz hw), some (vz mch), some (vz p)] [vz 0] _
          refine zz_if_eq (tgt := 65) d_PW_run_42 (by decide) (by decide) (fun c252 => ?_) (fun c252 => absurd c252 (by decide))
          refine ab_iload_n d_PW_run_65 rfl ?_
          refine zz_iconst d_PW_run_66 ?_
          refine zz_icmp_ne (tgt := 90) d_PW_run_67 (by decide) (by omega) (by decide) (fun c253 => ?_) (fun c253 => absurd c253 (by omega))
          refine ab_aload_n d_PW_run_90 rfl ?_
          refine ab_getf (fs := [vR f_ready, vR f_tape, vR f_reader, vR f_programs, vR f_subject, vR f_spans, vR f_threads, vR f_marks, vR f_oneMind, vR f_states, vR f_latest, vR f_matches, vR f_pieces, vR f_template, vR f_result, vR f_spare, vz cmp, vz ovs]) f_PW_55 d_PW_run_91 hw_.2.2 rfl ?_
          refine ab_aload_n d_PW_run_94 rfl ?_
          refine ab_aload_n d_PW_run_95 rfl ?_
          refine ab_getf (fs := [vR f_ready, vR f_tape, vR f_reader, vR f_programs, vR f_subject, vR f_spans, vR f_threads, vR f_marks, vR f_oneMind, vR f_states, vR f_latest, vR f_matches, vR f_pieces, vR f_template, vR f_result, vR f_spare, vz cmp, vz ovs]) f_PW_38 d_PW_run_96 hw_.2.2 rfl ?_
          refine ab_iload_n d_PW_run_99 rfl ?_
          refine ab_iload d_PW_run_100 rfl ?_
          refine ab_aload_n d_PW_run_102 rfl ?_
          refine ab_getf (fs := [vR f_ready, vR f_tape, vR f_reader, vR f_programs, vR f_subject, vR f_spans, vR f_threads, vR f_marks, vR f_oneMind, vR f_states, vR f_latest, vR f_matches, vR f_pieces, vR f_template, vR f_result, vR f_spare, vz cmp, vz ovs]) f_PW_42 d_PW_run_103 hw_.2.2 rfl ?_
          have hnt2_ := pomI_f_oneMind.nt
          have hq254 := stT_le ns
          have hq255 := stC_le ns
          have hq256 := onP_le on2225
          have hq257 := onS_le on2225
          obtain ⟨wk_k, mk_k, stk_k, w_k, df_k, dp_k, fo_k, fy_k, hw_k, WK_k, M_k, SK_k, sp0_k, q0_k, s0_k, hf_marks, hwk_k, hmk_k, hstk_k, cn_k, hst_k, cfo_k, cst0_k⟩ := pmkI_f_marks
          refine ab_callV (d' := d - 1) (as := [vR q, vR f_subject, vz hw, vz p, vR f_spans]) (st := []) (r := _) (z_MK_begin (o := o224) (q := q) (lq := lq) (ki := ki) (ne := ne) (ot := ot) (cnt := cnt) (fi := fi) (la := la) (ra := ra) (ru := ru) (gr := gr) (wi := wi) (sz := sz) (fl := fl) (ve := ve) (mi := mi2227) (na := na) (nl := nl) (s := f_subject) (by_ := by_) (co := co) (re := re) (ho := ho) (n := n) (a := f_marks) (sp := f_spans) (wk := wk_k) (mk := mk_k) (stk := stk_k) (dp := dp_k) (fo := fo_k) (hw := hw) (stp := stm) (M := M_k) (nm := nm) (q0 := q0_k) (s0 := s0_k) (sp0 := sp0_k) (from_ := p) (hw0 := hw_k) (fy0 := fy_k) (w0 := w_k) (df0 := df_k) hf_marks hmk_k hq hf_subject (by omega) (by omega) (by omega) (by omega) (by omega) (by omega) (by omega)) (fun oc G2 h => by rcases h with ⟨_, _, _, _, _, _, h, _⟩ <;> exact ⟨_, h⟩) (by omega) m_MK_begin ml_PW_189 im_MK_begin se_MK_begin c_MK hf_marks.2.2 (Nat.le_of_ble_eq_true rfl) d_PW_run_106 rfl ?_
          intro v G258 hq
          rcases hq with ⟨o259, w2260, fy2261, mk2262, nm2263, M2264, hv, hfk, hNf_marks, hNmk2262, hq265, hq266, hq267, hq268, hq269, hq270, hq271⟩
          cases hv
          have hw_ := hfk.get hw_ (by decide)
          have hf_spans := hfk.get hf_spans (by decide)
          have h17 := hfk.get h17 (by decide)
          have hq := hfk.get hq (by simp only [List.mem_cons, List.not_mem_nil, or_false]; omega)
          have hki := hfk.get hki (by simp only [List.mem_cons, List.not_mem_nil, or_false]; omega)
          have hne := hfk.get hne (by simp only [List.mem_cons, List.not_mem_nil, or_false]; omega)
          have hot := hfk.get hot (by simp only [List.mem_cons, List.not_mem_nil, or_false]; omega)
          have hra := hfk.get hra (by simp only [List.mem_cons, List.not_mem_nil, or_false]; omega)
          have hna := hfk.get hna (by simp only [List.mem_cons, List.not_mem_nil, or_false]; omega)
          have hnl := hfk.get hnl (by simp only [List.mem_cons, List.not_mem_nil, or_false]; omega)
          have hf_subject := hfk.get hf_subject (by decide)
          have hby_ := hfk.get hby_ (by decide)
          have hco := hfk.get hco (by decide)
          have hre := hfk.get hre (by decide)
          have hho := hfk.get hho (by decide)
          have hwk_k := hfk.get hwk_k (by decide)
          have hstk_k := hfk.get hstk_k (by decide)
          have pthI_f_threads := thI.fr hfk pthI_f_threads (by decide) (by decide) (by decide) (by decide) (by decide) (by decide) (by decide) (by decide)
          have pomI_f_oneMind := omI.fr hfk pomI_f_oneMind (by decide) (by decide) (by decide) (by decide) (by decide) (by decide) (by decide) (by decide)
          have pstI_f_states := stI.fr hfk pstI_f_states (by decide) (by decide) (by decide) (by decide) (by decide) (by decide) (by decide) (by decide) (by decide)
          have hfr := hfr.tr hfk (by simp)
          have hq272 := hfk.1
          have hf_marks := hNf_marks
          have hmk2262 := hNmk2262
          change ab_W _ _ _ G258 109 [some (vR w_), some (vR q), some (vz hw), some (vz mch), some (vz p)] [] _
          have hub_ := ucn_b (M := M2264) (w := w2260) (df := p) (n := n) (by omega) (by omega)
          have hzt2_ : zT nm2263 52026 ≤ 156078 := zT_le (c := 52026) (by omega) rfl
          refine ab_aload_n d_PW_run_109 rfl ?_
          refine ab_getf (fs := [vR f_ready, vR f_tape, vR f_reader, vR f_programs, vR f_subject, vR f_spans, vR f_threads, vR f_marks, vR f_oneMind, vR f_states, vR f_latest, vR f_matches, vR f_pieces, vR f_template, vR f_result, vR f_spare, vz cmp, vz ovs]) f_PW_55 d_PW_run_110 hw_.2.2 rfl ?_
          refine ab_iload d_PW_run_113 rfl ?_
          refine ab_callV (d' := d - 1) (as := [vz p]) (st := []) (r := _) (z_MK_find (o := o259) (q := q) (lq := lq) (ki := ki) (ne := ne) (ot := ot) (cnt := cnt) (fi := fi) (la := la) (ra := ra) (ru := ru) (gr := gr) (wi := wi) (sz := sz) (fl := fl) (ve := ve) (mi := mi2227) (na := na) (nl := nl) (K := K) (N := N) (O := O) (RR := RR) (nr := nr) (s := f_subject) (by_ := by_) (co := co) (re := re) (ho := ho) (n := n) (C := C) (Rs := Rs) (H := H) (mc := mc) (a := f_marks) (sp := f_spans) (wk := wk_k) (mk := mk2262) (stk := stk_k) (w := w2260) (df := p) (dp := dp_k) (fo := fo_k) (fy := fy2261) (hw := hw) (stp := stm) (SP := SP) (WK := WK_k) (M := M2264) (SK := SK_k) (nm := nm2263) (ns := ns) (p := p) hf_marks hf_spans hwk_k hmk2262 hstk_k hq hki hne hot hra hf_subject hco hre hho (by omega) hp hr (by omega) hsu (by omega) (by omega) (by omega) (by omega) (by omega) (by omega) hst_k (by omega) (by omega) jsp (by omega) (by omega) (by omega)) (fun oc G2 h => by rcases h with ⟨_, _, _, _, _, _, _, _, _, _, _, h, _⟩ | ⟨_, _, _, _, _, _, _, _, _, _, _, _, h, _⟩ <;> exact ⟨_, h⟩) (by omega) m_MK_find ml_PW_251 im_MK_find se_MK_find c_MK hf_marks.2.2 (Nat.le_of_ble_eq_true rfl) d_PW_run_115 rfl ?_
          intro v G273 hq
          rcases hq with ⟨o274, df2275, dp2276, fo2277, st2278, sk2279, ns2280, WK2281, M2282, SK2283, SP2284, hv, hfk, hNf_marks, hNf_spans, hNwk_k, hNmk2262, hNsk2279, hq285, hq286, hq287, hq288, hq289, hq290, hq291, hq292⟩ | ⟨o293, df2294, dp2295, fo2296, st2297, sk2298, ns2299, WK2300, M2301, SK2302, SP2303, r304, hv, hfk, hNf_marks, hNf_spans, hNwk_k, hNmk2262, hNsk2298, hq305, hq306, hq307, hq308, hq309, hq310, hq311, hq312, hq313, hq314, hq315, hq316⟩
          · cases hv
            have hw_ := hfk.get hw_ (by decide)
            have h17 := hfk.get h17 (by decide)
            have hq := hfk.get hq (by simp only [List.mem_cons, List.not_mem_nil, or_false]; omega)
            have hki := hfk.get hki (by simp only [List.mem_cons, List.not_mem_nil, or_false]; omega)
            have hne := hfk.get hne (by simp only [List.mem_cons, List.not_mem_nil, or_false]; omega)
            have hot := hfk.get hot (by simp only [List.mem_cons, List.not_mem_nil, or_false]; omega)
            have hra := hfk.get hra (by simp only [List.mem_cons, List.not_mem_nil, or_false]; omega)
            have hna := hfk.get hna (by simp only [List.mem_cons, List.not_mem_nil, or_false]; omega)
            have hnl := hfk.get hnl (by simp only [List.mem_cons, List.not_mem_nil, or_false]; omega)
            have hf_subject := hfk.get hf_subject (by decide)
            have hby_ := hfk.get hby_ (by decide)
            have hco := hfk.get hco (by decide)
            have hre := hfk.get hre (by decide)
            have hho := hfk.get hho (by decide)
            have pthI_f_threads := thI.fr hfk pthI_f_threads (by decide) (by decide) (by decide) (by decide) (by decide) (by decide) (by decide) (by decide)
            have pomI_f_oneMind := omI.fr hfk pomI_f_oneMind (by decide) (by decide) (by decide) (by decide) (by decide) (by decide) (by decide) (by decide)
            have pstI_f_states := stI.fr hfk pstI_f_states (by decide) (by decide) (by decide) (by decide) (by decide) (by decide) (by decide) (by decide) (by decide)
            have hfr := hfr.tr hfk (by simp)
            have hq317 := hfk.1
            have hf_marks := hNf_marks
            have hf_spans := hNf_spans
            have hwk_k := hNwk_k
            have hmk2262 := hNmk2262
            have hsk2279 := hNsk2279
            change ab_W _ _ _ G273 118 [some (vR w_), some (vR q), some (vz hw), some (vz mch), some (vz p)] [vz (-1)] _
            have hub2_ := ucn_b (M := M2282) (w := w2260) (df := df2275) (n := n) (by omega) (by omega)
            have pmkI_f_marks : mkI o274 G273 f_marks nm2263 ns2280 st2278 := ⟨wk_k, mk2262, sk2279, w2260, df2275, dp2276, fo2277, fy2261, hw, WK2281, M2282, SK2283, vR f_spans, vR q, vR f_subject, hf_marks, hwk_k, hmk2262, hsk2279, (by omega), hq286, (by omega), (by omega)⟩
            have hmq_ : onq mi2227 on2225 := hq231
            have ppgB_q : pgB o274 G273 q lq nr cv cmp on2225 mi2227 sz := ⟨ki, ne, ot, cnt, fi, la, ra, ru, gr, wi, fl, ve, na, nl, K, N, O, RR, NA, NL, hq, hki, hne, hot, hra, hna, hnl, (by omega), hpu, hp, hr, hch, (by omega), (by omega), (by omega), (by omega), (by omega), hq230, hmq_, (by omega), (by omega), jnl, (by omega)⟩
            have psuI_f_subject : suI o274 G273 f_subject n m := ⟨by_, co, re, ho, f, C, Rs, H, mc, hf_subject, hby_, hco, hre, hho, (by omega), hsu⟩
            refine zz_iret rfl d_PW_run_118 ?_
            rw [hQ]; exact ⟨_, _, _, _, _, _, _, _, _, _, _, _, rfl, hfr, hf_spans, pthI_f_threads, pmkI_f_marks, pomI_f_oneMind, pstI_f_states, psuI_f_subject, ppgB_q, (by omega), (by omega), (by exact hq288), (by omega), (by omega), (by first | exact Or.inl rfl | exact hq234)⟩
          · cases hv
            have hw_ := hfk.get hw_ (by decide)
            have h17 := hfk.get h17 (by decide)
            have hq := hfk.get hq (by simp only [List.mem_cons, List.not_mem_nil, or_false]; omega)
            have hki := hfk.get hki (by simp only [List.mem_cons, List.not_mem_nil, or_false]; omega)
            have hne := hfk.get hne (by simp only [List.mem_cons, List.not_mem_nil, or_false]; omega)
            have hot := hfk.get hot (by simp only [List.mem_cons, List.not_mem_nil, or_false]; omega)
            have hra := hfk.get hra (by simp only [List.mem_cons, List.not_mem_nil, or_false]; omega)
            have hna := hfk.get hna (by simp only [List.mem_cons, List.not_mem_nil, or_false]; omega)
            have hnl := hfk.get hnl (by simp only [List.mem_cons, List.not_mem_nil, or_false]; omega)
            have hf_subject := hfk.get hf_subject (by decide)
            have hby_ := hfk.get hby_ (by decide)
            have hco := hfk.get hco (by decide)
            have hre := hfk.get hre (by decide)
            have hho := hfk.get hho (by decide)
            have pthI_f_threads := thI.fr hfk pthI_f_threads (by decide) (by decide) (by decide) (by decide) (by decide) (by decide) (by decide) (by decide)
            have pomI_f_oneMind := omI.fr hfk pomI_f_oneMind (by decide) (by decide) (by decide) (by decide) (by decide) (by decide) (by decide) (by decide)
            have pstI_f_states := stI.fr hfk pstI_f_states (by decide) (by decide) (by decide) (by decide) (by decide) (by decide) (by decide) (by decide) (by decide)
            have hfr := hfr.tr hfk (by simp)
            have hq318 := hfk.1
            have hf_marks := hNf_marks
            have hf_spans := hNf_spans
            have hwk_k := hNwk_k
            have hmk2262 := hNmk2262
            have hsk2298 := hNsk2298
            change ab_W _ _ _ G273 118 [some (vR w_), some (vR q), some (vz hw), some (vz mch), some (vz p)] [vz r304] _
            have hub2_ := ucn_b (M := M2301) (w := w2260) (df := df2294) (n := n) (by omega) (by omega)
            have pmkI_f_marks : mkI o293 G273 f_marks nm2263 ns2299 st2297 := ⟨wk_k, mk2262, sk2298, w2260, df2294, dp2295, fo2296, fy2261, hw, WK2300, M2301, SK2302, vR f_spans, vR q, vR f_subject, hf_marks, hwk_k, hmk2262, hsk2298, (by omega), hq306, (by omega), (by omega)⟩
            have hmq_ : onq mi2227 on2225 := hq231
            have ppgB_q : pgB o293 G273 q lq nr cv cmp on2225 mi2227 sz := ⟨ki, ne, ot, cnt, fi, la, ra, ru, gr, wi, fl, ve, na, nl, K, N, O, RR, NA, NL, hq, hki, hne, hot, hra, hna, hnl, (by omega), hpu, hp, hr, hch, (by omega), (by omega), (by omega), (by omega), (by omega), hq230, hmq_, (by omega), (by omega), jnl, (by omega)⟩
            have psuI_f_subject : suI o293 G273 f_subject n m := ⟨by_, co, re, ho, f, C, Rs, H, mc, hf_subject, hby_, hco, hre, hho, (by omega), hsu⟩
            refine zz_iret rfl d_PW_run_118 ?_
            rw [hQ]; exact ⟨_, _, _, _, _, _, _, _, _, _, _, _, rfl, hfr, hf_spans, pthI_f_threads, pmkI_f_marks, pomI_f_oneMind, pstI_f_states, psuI_f_subject, ppgB_q, (by omega), (by omega), (by exact hq308), (by omega), (by omega), (by first | exact Or.inl rfl | exact hq234)⟩
        · cases hv
          have hw_ := hfk.get hw_ (by simp only [List.mem_cons, List.not_mem_nil, or_false]; omega)
          have hf_spans := hfk.get hf_spans (by simp only [List.mem_cons, List.not_mem_nil, or_false]; omega)
          have h17 := hfk.get h17 (by simp only [List.mem_cons, List.not_mem_nil, or_false]; omega)
          have hna := hfk.get hna (by simp only [List.mem_cons, List.not_mem_nil, or_false]; omega)
          have hnl := hfk.get hnl (by simp only [List.mem_cons, List.not_mem_nil, or_false]; omega)
          have hf_subject := hfk.get hf_subject (by simp only [List.mem_cons, List.not_mem_nil, or_false]; omega)
          have hby_ := hfk.get hby_ (by simp only [List.mem_cons, List.not_mem_nil, or_false]; omega)
          have hco := hfk.get hco (by simp only [List.mem_cons, List.not_mem_nil, or_false]; omega)
          have hre := hfk.get hre (by simp only [List.mem_cons, List.not_mem_nil, or_false]; omega)
          have hho := hfk.get hho (by simp only [List.mem_cons, List.not_mem_nil, or_false]; omega)
          have pthI_f_threads := thI.fr hfk pthI_f_threads (by simp only [List.mem_cons, List.not_mem_nil, or_false]; omega) (by simp only [List.mem_cons, List.not_mem_nil, or_false]; omega) (by simp only [List.mem_cons, List.not_mem_nil, or_false]; omega) (by simp only [List.mem_cons, List.not_mem_nil, or_false]; omega) (by simp only [List.mem_cons, List.not_mem_nil, or_false]; omega) (by simp only [List.mem_cons, List.not_mem_nil, or_false]; omega) (by simp only [List.mem_cons, List.not_mem_nil, or_false]; omega) (by simp only [List.mem_cons, List.not_mem_nil, or_false]; omega)
          have pmkI_f_marks := mkI.fr hfk pmkI_f_marks (by simp only [List.mem_cons, List.not_mem_nil, or_false]; omega) (by simp only [List.mem_cons, List.not_mem_nil, or_false]; omega) (by simp only [List.mem_cons, List.not_mem_nil, or_false]; omega) (by simp only [List.mem_cons, List.not_mem_nil, or_false]; omega)
          have pstI_f_states := stI.fr hfk pstI_f_states (by simp only [List.mem_cons, List.not_mem_nil, or_false]; omega) (by simp only [List.mem_cons, List.not_mem_nil, or_false]; omega) (by simp only [List.mem_cons, List.not_mem_nil, or_false]; omega) (by simp only [List.mem_cons, List.not_mem_nil, or_false]; omega) (by simp only [List.mem_cons, List.not_mem_nil, or_false]; omega) (by simp only [List.mem_cons, List.not_mem_nil, or_false]; omega) (by simp only [List.mem_cons, List.not_mem_nil, or_false]; omega) (by simp only [List.mem_cons, List.not_mem_nil, or_false]; omega) (by simp only [List.mem_cons, List.not_mem_nil, or_false]; omega)
          have pomI_f_oneMind := pNomI_f_oneMind
          have hfr := hfr.tr hfk (by simp)
          have hq251 := hfk.1
          have hq := hNq
          have hki := hNki
          have hne := hNne
          have hot := hNot
          have hra := hNra
          change ab_W _ _ _ G223 42 [some (vR w_), some (vR q), some (vz hw), some (vz mch), some (vz p)] [vz 1] _
          refine zz_if_eq (tgt := 65) d_PW_run_42 (by decide) (by decide) (fun c319 => absurd c319 (by decide)) (fun c319 => ?_)
          refine ab_aload_n d_PW_run_45 rfl ?_
          refine ab_getf (fs := [vR f_ready, vR f_tape, vR f_reader, vR f_programs, vR f_subject, vR f_spans, vR f_threads, vR f_marks, vR f_oneMind, vR f_states, vR f_latest, vR f_matches, vR f_pieces, vR f_template, vR f_result, vR f_spare, vz cmp, vz ovs]) f_PW_62 d_PW_run_46 hw_.2.2 rfl ?_
          refine ab_aload_n d_PW_run_49 rfl ?_
          refine ab_aload_n d_PW_run_50 rfl ?_
          refine ab_getf (fs := [vR f_ready, vR f_tape, vR f_reader, vR f_programs, vR f_subject, vR f_spans, vR f_threads, vR f_marks, vR f_oneMind, vR f_states, vR f_latest, vR f_matches, vR f_pieces, vR f_template, vR f_result, vR f_spare, vz cmp, vz ovs]) f_PW_38 d_PW_run_51 hw_.2.2 rfl ?_
          refine ab_iload_n d_PW_run_54 rfl ?_
          refine ab_iload d_PW_run_55 rfl ?_
          refine ab_aload_n d_PW_run_57 rfl ?_
          refine ab_getf (fs := [vR f_ready, vR f_tape, vR f_reader, vR f_programs, vR f_subject, vR f_spans, vR f_threads, vR f_marks, vR f_oneMind, vR f_states, vR f_latest, vR f_matches, vR f_pieces, vR f_template, vR f_result, vR f_spare, vz cmp, vz ovs]) f_PW_42 d_PW_run_58 hw_.2.2 rfl ?_
          obtain ⟨wk_o, onw_o, tkn_o, se__o, cle_o, stk_o, dp_o, fo_o, chn_o, hw_o, fy_o, WK_o, ON_o, SK_o, sp0_o, q0_o, s0_o, SE_o, CL_o, ct_o, P_o, nk_o, hf_oneMind, hwk_o, honw_o, hse__o, hcle_o, hstk_o, pcsI_tkn_o, hon_o, hnt_o, cst0_o⟩ := pomI_f_oneMind
          have hnk_ : nk_o = 809 := by rcases hon_o with z | z <;> omega
          subst hnk_
          refine ab_callV (d' := d - 1) (as := [vR q, vR f_subject, vz hw, vz p, vR f_spans]) (st := []) (r := _) (z_OM_find (o := o236) (a := f_oneMind) (sp := f_spans) (wk := wk_o) (onw := onw_o) (tkn := tkn_o) (se_ := se__o) (cle := cle_o) (stk := stk_o) (dp := dp_o) (chn := chn_o) (hw := hw) (stp := so2240) (SP := SP) (WK := WK_o) (ON := ON_o) (SK := SK_o) (q := q) (lq := lq) (ki := ki) (ne := ne) (ot := ot) (cnt := cnt) (fi := fi) (la := la) (ra := ra) (ru := ru) (gr := gr) (wi := wi) (sz := sz) (fl := fl) (ve := ve) (mi := mi2239) (na := na) (nl := nl) (K := K) (N := N) (O := O) (RR := RR) (nr := nr) (s := f_subject) (by_ := by_) (co := co) (re := re) (ho := ho) (n := n) (C := C) (Rs := Rs) (H := H) (mc := mc) (p := p) (sp0 := sp0_o) (q0 := q0_o) (s0 := s0_o) (hw0 := hw_o) (fy0 := fy_o) (fo0 := fo_o) hf_oneMind hf_spans hwk_o honw_o hstk_o hq hki hne hot hra hf_subject hco hre hho (by omega) hp hr (by omega) (by omega) hsu (by omega) hq248 (by omega) (by omega) jsp (by omega)) (fun oc G2 h => by rcases h with ⟨_, _, _, _, _, _, _, _, _, h, _⟩ | ⟨_, _, _, _, _, _, _, _, _, _, h, _⟩ <;> exact ⟨_, h⟩) (by omega) m_OM_find ml_PW_250 im_OM_find se_OM_find c_OM hf_oneMind.2.2 (Nat.le_of_ble_eq_true rfl) d_PW_run_61 rfl ?_
          intro v G320 hq
          rcases hq with ⟨dp2321, fo2322, ch2323, fy2324, st2325, SP2326, WK2327, ON2328, SK2329, hv, hfk, hlk, hsk, hNf_oneMind, hNf_spans, hNwk_o, hNonw_o, hNstk_o, hq330, hq331, hq332⟩ | ⟨dp2333, fo2334, ch2335, fy2336, st2337, SP2338, WK2339, ON2340, SK2341, r342, hv, hfk, hlk, hsk, hNf_oneMind, hNf_spans, hNwk_o, hNonw_o, hNstk_o, hq343, hq344, hq345, hq346, hq347, hq348, hq349⟩
          · cases hv
            have hw_ := hfk.get hw_ (by decide)
            have h17 := hfk.get h17 (by decide)
            have hq := hfk.get hq (by simp only [List.mem_cons, List.not_mem_nil, or_false]; omega)
            have hki := hfk.get hki (by simp only [List.mem_cons, List.not_mem_nil, or_false]; omega)
            have hne := hfk.get hne (by simp only [List.mem_cons, List.not_mem_nil, or_false]; omega)
            have hot := hfk.get hot (by simp only [List.mem_cons, List.not_mem_nil, or_false]; omega)
            have hra := hfk.get hra (by simp only [List.mem_cons, List.not_mem_nil, or_false]; omega)
            have hna := hfk.get hna (by simp only [List.mem_cons, List.not_mem_nil, or_false]; omega)
            have hnl := hfk.get hnl (by simp only [List.mem_cons, List.not_mem_nil, or_false]; omega)
            have hf_subject := hfk.get hf_subject (by decide)
            have hby_ := hfk.get hby_ (by decide)
            have hco := hfk.get hco (by decide)
            have hre := hfk.get hre (by decide)
            have hho := hfk.get hho (by decide)
            have hse__o := hfk.get hse__o (by decide)
            have hcle_o := hfk.get hcle_o (by decide)
            have pthI_f_threads := thI.fr hfk pthI_f_threads (by decide) (by decide) (by decide) (by decide) (by decide) (by decide) (by decide) (by decide)
            have pmkI_f_marks := mkI.fr hfk pmkI_f_marks (by decide) (by decide) (by decide) (by decide)
            have pstI_f_states := stI.fr hfk pstI_f_states (by decide) (by decide) (by decide) (by decide) (by decide) (by decide) (by decide) (by decide) (by decide)
            have pcsI_tkn_o := csI.fr hfk pcsI_tkn_o (by decide) (by decide)
            have hfr := hfr.tr hfk (by simp)
            have hq350 := hlk
            have hq351 := hsk
            have hf_oneMind := hNf_oneMind
            have hf_spans := hNf_spans
            have hwk_o := hNwk_o
            have honw_o := hNonw_o
            have hstk_o := hNstk_o
            change ab_W _ _ _ G320 64 [some (vR w_), some (vR q), some (vz hw), some (vz mch), some (vz p)] [vz (-1)] _
            have pomI_f_oneMind : omI o236 G320 f_oneMind on2237 nt2238 st2325 := ⟨wk_o, onw_o, tkn_o, se__o, cle_o, stk_o, dp2321, fo2322, ch2323, hw, fy2324, WK2327, ON2328, SK2329, vR f_spans, vR q, vR f_subject, SE_o, CL_o, ct_o, P_o, 809, hf_oneMind, hwk_o, honw_o, hse__o, hcle_o, hstk_o, pcsI_tkn_o, (Or.inr ⟨by omega, rfl⟩), (by omega), (by omega)⟩
            have hmq_ : onq mi2239 on2237 := hq243
            have ppgB_q : pgB o236 G320 q lq nr cv cmp on2237 mi2239 sz := ⟨ki, ne, ot, cnt, fi, la, ra, ru, gr, wi, fl, ve, na, nl, K, N, O, RR, NA, NL, hq, hki, hne, hot, hra, hna, hnl, (by omega), hpu, hp, hr, hch, (by omega), (by omega), (by omega), (by omega), (by omega), hq242, hmq_, (by omega), (by omega), jnl, (by omega)⟩
            have psuI_f_subject : suI o236 G320 f_subject n m := ⟨by_, co, re, ho, f, C, Rs, H, mc, hf_subject, hby_, hco, hre, hho, (by omega), hsu⟩
            refine zz_iret rfl d_PW_run_64 ?_
            rw [hQ]; exact ⟨_, _, _, _, _, _, _, _, _, _, _, _, rfl, hfr, hf_spans, pthI_f_threads, pmkI_f_marks, pomI_f_oneMind, pstI_f_states, psuI_f_subject, ppgB_q, (by omega), (by omega), (by exact hq330), (by omega), (by omega), (by first | exact Or.inl rfl | exact hq246)⟩
          · cases hv
            have hw_ := hfk.get hw_ (by decide)
            have h17 := hfk.get h17 (by decide)
            have hq := hfk.get hq (by simp only [List.mem_cons, List.not_mem_nil, or_false]; omega)
            have hki := hfk.get hki (by simp only [List.mem_cons, List.not_mem_nil, or_false]; omega)
            have hne := hfk.get hne (by simp only [List.mem_cons, List.not_mem_nil, or_false]; omega)
            have hot := hfk.get hot (by simp only [List.mem_cons, List.not_mem_nil, or_false]; omega)
            have hra := hfk.get hra (by simp only [List.mem_cons, List.not_mem_nil, or_false]; omega)
            have hna := hfk.get hna (by simp only [List.mem_cons, List.not_mem_nil, or_false]; omega)
            have hnl := hfk.get hnl (by simp only [List.mem_cons, List.not_mem_nil, or_false]; omega)
            have hf_subject := hfk.get hf_subject (by decide)
            have hby_ := hfk.get hby_ (by decide)
            have hco := hfk.get hco (by decide)
            have hre := hfk.get hre (by decide)
            have hho := hfk.get hho (by decide)
            have hse__o := hfk.get hse__o (by decide)
            have hcle_o := hfk.get hcle_o (by decide)
            have pthI_f_threads := thI.fr hfk pthI_f_threads (by decide) (by decide) (by decide) (by decide) (by decide) (by decide) (by decide) (by decide)
            have pmkI_f_marks := mkI.fr hfk pmkI_f_marks (by decide) (by decide) (by decide) (by decide)
            have pstI_f_states := stI.fr hfk pstI_f_states (by decide) (by decide) (by decide) (by decide) (by decide) (by decide) (by decide) (by decide) (by decide)
            have pcsI_tkn_o := csI.fr hfk pcsI_tkn_o (by decide) (by decide)
            have hfr := hfr.tr hfk (by simp)
            have hq352 := hlk
            have hq353 := hsk
            have hf_oneMind := hNf_oneMind
            have hf_spans := hNf_spans
            have hwk_o := hNwk_o
            have honw_o := hNonw_o
            have hstk_o := hNstk_o
            change ab_W _ _ _ G320 64 [some (vR w_), some (vR q), some (vz hw), some (vz mch), some (vz p)] [vz r342] _
            have pomI_f_oneMind : omI o236 G320 f_oneMind on2237 nt2238 st2337 := ⟨wk_o, onw_o, tkn_o, se__o, cle_o, stk_o, dp2333, fo2334, ch2335, hw, fy2336, WK2339, ON2340, SK2341, vR f_spans, vR q, vR f_subject, SE_o, CL_o, ct_o, P_o, 809, hf_oneMind, hwk_o, honw_o, hse__o, hcle_o, hstk_o, pcsI_tkn_o, (Or.inr ⟨by omega, rfl⟩), (by omega), (by omega)⟩
            have hmq_ : onq mi2239 on2237 := hq243
            have ppgB_q : pgB o236 G320 q lq nr cv cmp on2237 mi2239 sz := ⟨ki, ne, ot, cnt, fi, la, ra, ru, gr, wi, fl, ve, na, nl, K, N, O, RR, NA, NL, hq, hki, hne, hot, hra, hna, hnl, (by omega), hpu, hp, hr, hch, (by omega), (by omega), (by omega), (by omega), (by omega), hq242, hmq_, (by omega), (by omega), jnl, (by omega)⟩
            have psuI_f_subject : suI o236 G320 f_subject n m := ⟨by_, co, re, ho, f, C, Rs, H, mc, hf_subject, hby_, hco, hre, hho, (by omega), hsu⟩
            refine zz_iret rfl d_PW_run_64 ?_
            rw [hQ]; exact ⟨_, _, _, _, _, _, _, _, _, _, _, _, rfl, hfr, hf_spans, pthI_f_threads, pmkI_f_marks, pomI_f_oneMind, pstI_f_states, psuI_f_subject, ppgB_q, (by omega), (by omega), (by exact hq343), (by omega), (by omega), (by first | exact Or.inl rfl | exact hq246)⟩
  · refine ab_aload_n d_PW_run_5 rfl ?_
    refine ab_getf (fs := [vR f_ready, vR f_tape, vR f_reader, vR f_programs, vR f_subject, vR f_spans, vR f_threads, vR f_marks, vR f_oneMind, vR f_states, vR f_latest, vR f_matches, vR f_pieces, vR f_template, vR f_result, vR f_spare, vz cmp, vz ovs]) f_PW_48 d_PW_run_6 hw_.2.2 rfl ?_
    refine ab_aload_n d_PW_run_9 rfl ?_
    refine ab_aload_n d_PW_run_10 rfl ?_
    refine ab_getf (fs := [vR f_ready, vR f_tape, vR f_reader, vR f_programs, vR f_subject, vR f_spans, vR f_threads, vR f_marks, vR f_oneMind, vR f_states, vR f_latest, vR f_matches, vR f_pieces, vR f_template, vR f_result, vR f_spare, vz cmp, vz ovs]) f_PW_38 d_PW_run_11 hw_.2.2 rfl ?_
    refine ab_iload_n d_PW_run_14 rfl ?_
    refine ab_iload d_PW_run_15 rfl ?_
    refine ab_aload_n d_PW_run_17 rfl ?_
    refine ab_getf (fs := [vR f_ready, vR f_tape, vR f_reader, vR f_programs, vR f_subject, vR f_spans, vR f_threads, vR f_marks, vR f_oneMind, vR f_states, vR f_latest, vR f_matches, vR f_pieces, vR f_template, vR f_result, vR f_spare, vz cmp, vz ovs]) f_PW_42 d_PW_run_18 hw_.2.2 rfl ?_
    obtain ⟨wk_t, nw_t, tn_t, nsp_t, tsp_t, se_t, stk_t, nc_t, tc_t, sta_t, fo_t, hw_t, fy_t, WK_t, NW_t, TN_t, NS_t, TS_t, SE_t, SK_t, l1_t, l2_t, l3_t, l4_t, sp0_t, q0_t, s0_t, hf_threads, hwk_t, hnw_t, htn_t, hnsp_t, htsp_t, hse_t, hstk_t, cl_t, jse_t, cst_t, cst0_t⟩ := pthI_f_threads
    refine ab_callV (d' := d - 1) (as := [vR q, vR f_subject, vz hw, vz p, vR f_spans]) (st := []) (r := _) (z_TH_find (o := o) (q := q) (lq := lq) (ki := ki) (ne := ne) (ot := ot) (cnt := cnt) (fi := fi) (la := la) (ra := ra) (ru := ru) (gr := gr) (wi := wi) (sz := sz) (fl := fl) (ve := ve) (mi := mi) (na := na) (nl := nl) (K := K) (N := N) (O := O) (RR := RR) (nr := nr) (s := f_subject) (by_ := by_) (co := co) (re := re) (ho := ho) (n := n) (C := C) (Rs := Rs) (H := H) (mc := mc) (a := f_threads) (sp := f_spans) (wk := wk_t) (nw := nw_t) (tn := tn_t) (nsp := nsp_t) (tsp := tsp_t) (se := se_t) (stk := stk_t) (nc := nc_t) (tc := tc_t) (sta := sta_t) (hw := hw) (stp := stt) (SP := SP) (WK := WK_t) (NW := NW_t) (TN := TN_t) (NS := NS_t) (TS := TS_t) (SE := SE_t) (SK := SK_t) (l1 := l1_t) (l2 := l2_t) (l3 := l3_t) (l4 := l4_t) (sp0 := sp0_t) (q0 := q0_t) (s0 := s0_t) (hw0 := hw_t) (fy0 := fy_t) (fo0 := fo_t) (p := p) hf_threads hf_spans hwk_t hnw_t htn_t hnsp_t htsp_t hse_t hstk_t hq hki hne hot hra hf_subject hco hre hho (by omega) hp hr (by omega) hsu (by omega) (by omega) (by omega) (by omega) (by omega) jse_t (by omega) jsp (by omega)) (fun oc G2 h => by rcases h with ⟨_, _, _, _, _, _, _, _, _, _, _, _, _, _, _, _, _, _, _, _, _, _, h, _⟩ | ⟨_, _, _, _, _, _, _, _, _, _, _, _, _, _, _, _, _, _, _, _, _, _, _, h, _⟩ <;> exact ⟨_, h⟩) (by omega) m_TH_find ml_PW_243 im_TH_find se_TH_find c_TH hf_threads.2.2 (Nat.le_of_ble_eq_true rfl) d_PW_run_21 rfl ?_
    intro v G354 hq
    rcases hq with ⟨nw2355, tn2356, nsp2357, tsp2358, m1359, m2_360, m3361, m4362, nc2363, tc2364, sta2365, fo2366, fy2367, st2368, NW2369, TN2370, NS2371, TS2372, SE2373, SK2374, WK2375, SP2376, hv, hfk, hlk, hsk, hNf_threads, hNf_spans, hNwk_t, hNnw2355, hNtn2356, hNnsp2357, hNtsp2358, hNse_t, hNstk_t, hq377, hq378, hq379, hq380, hq381, hq382⟩ | ⟨nw2383, tn2384, nsp2385, tsp2386, m1387, m2_388, m3389, m4390, nc2391, tc2392, sta2393, fo2394, fy2395, st2396, NW2397, TN2398, NS2399, TS2400, SE2401, SK2402, WK2403, SP2404, r405, hv, hfk, hlk, hsk, hNf_threads, hNf_spans, hNwk_t, hNnw2383, hNtn2384, hNnsp2385, hNtsp2386, hNse_t, hNstk_t, hq406, hq407, hq408, hq409, hq410, hq411, hq412, hq413, hq414, hq415⟩
    · cases hv
      have hw_ := hfk.get hw_ (by decide)
      have h17 := hfk.get h17 (by decide)
      have hq := hfk.get hq (by simp only [List.mem_cons, List.not_mem_nil, or_false]; omega)
      have hki := hfk.get hki (by simp only [List.mem_cons, List.not_mem_nil, or_false]; omega)
      have hne := hfk.get hne (by simp only [List.mem_cons, List.not_mem_nil, or_false]; omega)
      have hot := hfk.get hot (by simp only [List.mem_cons, List.not_mem_nil, or_false]; omega)
      have hra := hfk.get hra (by simp only [List.mem_cons, List.not_mem_nil, or_false]; omega)
      have hna := hfk.get hna (by simp only [List.mem_cons, List.not_mem_nil, or_false]; omega)
      have hnl := hfk.get hnl (by simp only [List.mem_cons, List.not_mem_nil, or_false]; omega)
      have hf_subject := hfk.get hf_subject (by decide)
      have hby_ := hfk.get hby_ (by decide)
      have hco := hfk.get hco (by decide)
      have hre := hfk.get hre (by decide)
      have hho := hfk.get hho (by decide)
      have pmkI_f_marks := mkI.fr hfk pmkI_f_marks (by decide) (by decide) (by decide) (by decide)
      have pomI_f_oneMind := omI.fr hfk pomI_f_oneMind (by decide) (by decide) (by decide) (by decide) (by decide) (by decide) (by decide) (by decide)
      have pstI_f_states := stI.fr hfk pstI_f_states (by decide) (by decide) (by decide) (by decide) (by decide) (by decide) (by decide) (by decide) (by decide)
      have hfr := hfr.tr hfk (by simp)
      have hq416 := hlk
      have hq417 := hsk
      have hf_threads := hNf_threads
      have hf_spans := hNf_spans
      have hwk_t := hNwk_t
      have hnw2355 := hNnw2355
      have htn2356 := hNtn2356
      have hnsp2357 := hNnsp2357
      have htsp2358 := hNtsp2358
      have hse_t := hNse_t
      have hstk_t := hNstk_t
      change ab_W _ _ _ G354 24 [some (vR w_), some (vR q), some (vz hw), some (vz mch), some (vz p)] [vz (-1)] _
      have pthI_f_threads : thI o G354 f_threads st2368 := ⟨wk_t, nw2355, tn2356, nsp2357, tsp2358, se_t, stk_t, nc2363, tc2364, sta2365, fo2366, hw, fy2367, WK2375, NW2369, TN2370, NS2371, TS2372, SE2373, SK2374, m1359, m2_360, m3361, m4362, vR f_spans, vR q, vR f_subject, hf_threads, hwk_t, hnw2355, htn2356, hnsp2357, htsp2358, hse_t, hstk_t, (by omega), hq380, (by omega), (by omega)⟩
      have hmq_ : onq mi on := hmi
      have ppgB_q : pgB o G354 q lq nr cv cmp on mi sz := ⟨ki, ne, ot, cnt, fi, la, ra, ru, gr, wi, fl, ve, na, nl, K, N, O, RR, NA, NL, hq, hki, hne, hot, hra, hna, hnl, (by omega), hpu, hp, hr, hch, (by omega), (by omega), (by omega), (by omega), (by omega), hpo, hmq_, (by omega), (by omega), jnl, (by omega)⟩
      have psuI_f_subject : suI o G354 f_subject n m := ⟨by_, co, re, ho, f, C, Rs, H, mc, hf_subject, hby_, hco, hre, hho, (by omega), hsu⟩
      refine zz_iret rfl d_PW_run_24 ?_
      rw [hQ]; exact ⟨_, _, _, _, _, _, _, _, _, _, _, _, rfl, hfr, hf_spans, pthI_f_threads, pmkI_f_marks, pomI_f_oneMind, pstI_f_states, psuI_f_subject, ppgB_q, (by omega), (by omega), (by exact hq379), (by omega), (by omega), (by first | exact Or.inl rfl | exact Or.inl rfl)⟩
    · cases hv
      have hw_ := hfk.get hw_ (by decide)
      have h17 := hfk.get h17 (by decide)
      have hq := hfk.get hq (by simp only [List.mem_cons, List.not_mem_nil, or_false]; omega)
      have hki := hfk.get hki (by simp only [List.mem_cons, List.not_mem_nil, or_false]; omega)
      have hne := hfk.get hne (by simp only [List.mem_cons, List.not_mem_nil, or_false]; omega)
      have hot := hfk.get hot (by simp only [List.mem_cons, List.not_mem_nil, or_false]; omega)
      have hra := hfk.get hra (by simp only [List.mem_cons, List.not_mem_nil, or_false]; omega)
      have hna := hfk.get hna (by simp only [List.mem_cons, List.not_mem_nil, or_false]; omega)
      have hnl := hfk.get hnl (by simp only [List.mem_cons, List.not_mem_nil, or_false]; omega)
      have hf_subject := hfk.get hf_subject (by decide)
      have hby_ := hfk.get hby_ (by decide)
      have hco := hfk.get hco (by decide)
      have hre := hfk.get hre (by decide)
      have hho := hfk.get hho (by decide)
      have pmkI_f_marks := mkI.fr hfk pmkI_f_marks (by decide) (by decide) (by decide) (by decide)
      have pomI_f_oneMind := omI.fr hfk pomI_f_oneMind (by decide) (by decide) (by decide) (by decide) (by decide) (by decide) (by decide) (by decide)
      have pstI_f_states := stI.fr hfk pstI_f_states (by decide) (by decide) (by decide) (by decide) (by decide) (by decide) (by decide) (by decide) (by decide)
      have hfr := hfr.tr hfk (by simp)
      have hq418 := hlk
      have hq419 := hsk
      have hf_threads := hNf_threads
      have hf_spans := hNf_spans
      have hwk_t := hNwk_t
      have hnw2383 := hNnw2383
      have htn2384 := hNtn2384
      have hnsp2385 := hNnsp2385
      have htsp2386 := hNtsp2386
      have hse_t := hNse_t
      have hstk_t := hNstk_t
      change ab_W _ _ _ G354 24 [some (vR w_), some (vR q), some (vz hw), some (vz mch), some (vz p)] [vz r405] _
      have pthI_f_threads : thI o G354 f_threads st2396 := ⟨wk_t, nw2383, tn2384, nsp2385, tsp2386, se_t, stk_t, nc2391, tc2392, sta2393, fo2394, hw, fy2395, WK2403, NW2397, TN2398, NS2399, TS2400, SE2401, SK2402, m1387, m2_388, m3389, m4390, vR f_spans, vR q, vR f_subject, hf_threads, hwk_t, hnw2383, htn2384, hnsp2385, htsp2386, hse_t, hstk_t, (by omega), hq409, (by omega), (by omega)⟩
      have hmq_ : onq mi on := hmi
      have ppgB_q : pgB o G354 q lq nr cv cmp on mi sz := ⟨ki, ne, ot, cnt, fi, la, ra, ru, gr, wi, fl, ve, na, nl, K, N, O, RR, NA, NL, hq, hki, hne, hot, hra, hna, hnl, (by omega), hpu, hp, hr, hch, (by omega), (by omega), (by omega), (by omega), (by omega), hpo, hmq_, (by omega), (by omega), jnl, (by omega)⟩
      have psuI_f_subject : suI o G354 f_subject n m := ⟨by_, co, re, ho, f, C, Rs, H, mc, hf_subject, hby_, hco, hre, hho, (by omega), hsu⟩
      refine zz_iret rfl d_PW_run_24 ?_
      rw [hQ]; exact ⟨_, _, _, _, _, _, _, _, _, _, _, _, rfl, hfr, hf_spans, pthI_f_threads, pmkI_f_marks, pomI_f_oneMind, pstI_f_states, psuI_f_subject, ppgB_q, (by omega), (by omega), (by exact hq408), (by omega), (by omega), (by first | exact Or.inl rfl | exact Or.inl rfl)⟩
set_option maxRecDepth 100000 in
set_option maxHeartbeats 4000000 in
theorem z_PW_settle {X : ab_X} {d : Nat} {o : Nat → Nat} {G : ab_G} {w_ : Nat} {f_ready : Nat} {f_tape : Nat} {f_reader : Nat} {f_programs : Nat} {f_subject : Nat} {f_spans : Nat} {f_threads : Nat} {f_marks : Nat} {f_oneMind : Nat} {f_states : Nat} {f_latest : Nat} {f_matches : Nat} {f_pieces : Nat} {f_template : Nat} {f_result : Nat} {f_spare : Nat} {cmp : Int} {ovs : Int} {cv : Int → Int} {on : Nat} {nm : Nat} {ns : Nat} {nt : Nat} {n : Int} {m : Nat} {z1 : Int} {z2 : Int} {stt : Int} {stm : Int} {sto : Int} {sts : Int} (hw_ : cc o G w_ 18 (ab_ob 0 [vR f_ready, vR f_tape, vR f_reader, vR f_programs, vR f_subject, vR f_spans, vR f_threads, vR f_marks, vR f_oneMind, vR f_states, vR f_latest, vR f_matches, vR f_pieces, vR f_template, vR f_result, vR f_spare, vz cmp, vz ovs])) (pthI_f_threads : thI o G f_threads stt) (pmkI_f_marks : mkI o G f_marks nm ns stm) (pomI_f_oneMind : omI o G f_oneMind on nt sto) (pstI_f_states : stI o G f_states cv cmp sts) (psuI_f_subject : suI o G f_subject n m) (n18 : ab_n0 = 18) (cz : 0 ≤ z1 ∧ z1 ≤ 100000 ∧ 0 ≤ z2 ∧ z2 ≤ 100000) (cmo : stt + stm + sto + sts ≤ 400 * (z1 + 20) * (n + 20) * (z2 + 1)) (hd : 1 ≤ d) : ab_F X d y_PW_settle (.code y_PW_settle b_PW_settle 7 none) [vR w_, vz z1, vz z2] G (fun oc G2 => oc = .returned none ∧ fx o o [18, 32, 44, 50, 60] G G2 ∧ G2.length = G.length ∧ ab_slots G2 = ab_slots G ∧ cc o G2 w_ 18 (ab_ob 0 [vR f_ready, vR f_tape, vR f_reader, vR f_programs, vR f_subject, vR f_spans, vR f_threads, vR f_marks, vR f_oneMind, vR f_states, vR f_latest, vR f_matches, vR f_pieces, vR f_template, vR f_result, vR f_spare, vz cmp, vz ovs]) ∧ thI o G2 f_threads 0 ∧ mkI o G2 f_marks nm ns 0 ∧ omI o G2 f_oneMind on nt 0 ∧ stI o G2 f_states cv cmp 0 ∧ suI o G2 f_subject n m) := by
  refine ab_F_of (by decide +kernel) (Nat.le_of_ble_eq_true rfl) ?_
  obtain ⟨Q, hQ⟩ : ∃ z : Outcome → ab_G → Prop, z = (fun oc G2 => oc = .returned none ∧ fx o o [18, 32, 44, 50, 60] G G2 ∧ G2.length = G.length ∧ ab_slots G2 = ab_slots G ∧ cc o G2 w_ 18 (ab_ob 0 [vR f_ready, vR f_tape, vR f_reader, vR f_programs, vR f_subject, vR f_spans, vR f_threads, vR f_marks, vR f_oneMind, vR f_states, vR f_latest, vR f_matches, vR f_pieces, vR f_template, vR f_result, vR f_spare, vz cmp, vz ovs]) ∧ thI o G2 f_threads 0 ∧ mkI o G2 f_marks nm ns 0 ∧ omI o G2 f_oneMind on nt 0 ∧ stI o G2 f_states cv cmp 0 ∧ suI o G2 f_subject n m) := ⟨_, rfl⟩
  rw [← hQ]
  change ab_W X (ab_pl y_PW_settle b_PW_settle 7 none) d G 0 [some (vR w_), some (vz z1), some (vz z2), none, none, none, none] [] Q
  have hfr : fx o o [18, 32, 44, 50, 60] G G := fx.rf
  have hlen : G.length = G.length := rfl
  have hsl : ab_slots G = ab_slots G := rfl
  obtain ⟨by_, co, re, ho, f, C, Rs, H, mc, hf_subject, hby_, hco, hre, hho, csu, hsu⟩ := psuI_f_subject
  obtain ⟨wk_t, nw_t, tn_t, nsp_t, tsp_t, se_t, stk_t, nc_t, tc_t, sta_t, fo_t, hw_t, fy_t, WK_t, NW_t, TN_t, NS_t, TS_t, SE_t, SK_t, l1_t, l2_t, l3_t, l4_t, sp0_t, q0_t, s0_t, hf_threads, hwk_t, hnw_t, htn_t, hnsp_t, htsp_t, hse_t, hstk_t, cl_t, jse_t, cst_t, cst0_t⟩ := pthI_f_threads
  obtain ⟨wk_k, mk_k, stk_k, w_k, df_k, dp_k, fo_k, fy_k, hw_k, WK_k, M_k, SK_k, sp0_k, q0_k, s0_k, hf_marks, hwk_k, hmk_k, hstk_k, cn_k, hst_k, cfo_k, cst0_k⟩ := pmkI_f_marks
  obtain ⟨wk_o, onw_o, tkn_o, se__o, cle_o, stk_o, dp_o, fo_o, chn_o, hw_o, fy_o, WK_o, ON_o, SK_o, sp0_o, q0_o, s0_o, SE_o, CL_o, ct_o, P_o, nk_o, hf_oneMind, hwk_o, honw_o, hse__o, hcle_o, hstk_o, pcsI_tkn_o, hon_o, hnt_o, cst0_o⟩ := pomI_f_oneMind
  obtain ⟨cu_s, eg_s, po_s, bg_s, bd_s, sd_s, se__s, stk_s, mst_s, q0_s, vr_s, ro_s, cn_s, ct_s, sc_s, sta_s, arv_s, CU_s, EG_s, PO_s, BG_s, BD_s, SD_s, SE_s, SK_s, hf_states, hcu_s, heg_s, hpo_s, hbg_s, hbd_s, hsd_s, hse__s, hstk_s, jcu_s, ccn_s, cms_s, cvr_s, jbg_s, jpo_s, jbd_s, jeg_s, cro_s, cst0_s⟩ := pstI_f_states
  refine zz_ldc2 400 d_PW_settle_0 cn_PW_253 ?_
  refine ab_iload_n d_PW_settle_3 rfl ?_
  refine zz_bipush d_PW_settle_4 (by decide) ?_
  refine zz_iadd d_PW_settle_6 ?_
  refine zz_i2l d_PW_settle_7 (by omega) ?_
  refine zz_lmul d_PW_settle_8 ?_
  refine ab_aload_n d_PW_settle_9 rfl ?_
  refine ab_getf (fs := [vR f_ready, vR f_tape, vR f_reader, vR f_programs, vR f_subject, vR f_spans, vR f_threads, vR f_marks, vR f_oneMind, vR f_states, vR f_latest, vR f_matches, vR f_pieces, vR f_template, vR f_result, vR f_spare, vz cmp, vz ovs]) f_PW_38 d_PW_settle_10 hw_.2.2 rfl ?_
  refine ab_getf (fs := [vR by_, vR co, vR re, vR ho, vz n]) f_PW_164 d_PW_settle_13 hf_subject.2.2 rfl ?_
  refine zz_bipush d_PW_settle_16 (by decide) ?_
  refine zz_iadd d_PW_settle_18 ?_
  refine zz_i2l d_PW_settle_19 (by omega) ?_
  refine zz_lmul d_PW_settle_20 ?_
  obtain ⟨v1, hv1⟩ : ∃ z : Int, z = (400 * (z1 + 20)) * (n + 20) := ⟨_, rfl⟩
  rw [← hv1]
  have hv1b := z_mulb (a := (400 * (z1 + 20))) (b := (n + 20)) (A := 40008000) (B := 2020) (by omega) (by omega)
  rw [← hv1] at hv1b
  change ab_W _ _ _ G 21 [some (vR w_), some (vz z1), some (vz z2), none, none, none, none] [vj v1] _
  refine ab_iload_n d_PW_settle_21 rfl ?_
  refine zz_iconst d_PW_settle_22 ?_
  refine zz_iadd d_PW_settle_23 ?_
  refine zz_i2l d_PW_settle_24 (by omega) ?_
  refine zz_lmul d_PW_settle_25 ?_
  obtain ⟨v2, hv2⟩ : ∃ z : Int, z = v1 * (z2 + 1) := ⟨_, rfl⟩
  rw [← hv2]
  have hv2b := z_mulb (a := v1) (b := (z2 + 1)) (A := 80816160000) (B := 100001) (by omega) (by omega)
  rw [← hv2] at hv2b
  change ab_W _ _ _ G 26 [some (vR w_), some (vz z1), some (vz z2), none, none, none, none] [vj v2] _
  refine ab_lstore_n d_PW_settle_26 (Nat.le_of_ble_eq_true rfl) (Nat.le_of_ble_eq_true rfl) rfl ?_
  change ab_W _ _ _ G 27 [some (vR w_), some (vz z1), some (vz z2), some (vj v2), none, none, none] [] _
  refine ab_aload_n d_PW_settle_27 rfl ?_
  refine ab_getf (fs := [vR f_ready, vR f_tape, vR f_reader, vR f_programs, vR f_subject, vR f_spans, vR f_threads, vR f_marks, vR f_oneMind, vR f_states, vR f_latest, vR f_matches, vR f_pieces, vR f_template, vR f_result, vR f_spare, vz cmp, vz ovs]) f_PW_48 d_PW_settle_28 hw_.2.2 rfl ?_
  refine ab_getf (fs := [sp0_t, vR wk_t, vR nw_t, vR tn_t, vR nsp_t, vR tsp_t, vz nc_t, vz tc_t, vR se_t, vz sta_t, vR stk_t, vz fo_t, q0_t, s0_t, vz hw_t, vz fy_t, vj stt]) f_PW_255 d_PW_settle_31 hf_threads.2.2 rfl ?_
  refine ab_aload_n d_PW_settle_34 rfl ?_
  refine ab_getf (fs := [vR f_ready, vR f_tape, vR f_reader, vR f_programs, vR f_subject, vR f_spans, vR f_threads, vR f_marks, vR f_oneMind, vR f_states, vR f_latest, vR f_matches, vR f_pieces, vR f_template, vR f_result, vR f_spare, vz cmp, vz ovs]) f_PW_55 d_PW_settle_35 hw_.2.2 rfl ?_
  refine ab_getf (fs := [sp0_k, vR wk_k, vR mk_k, vz w_k, vz df_k, vR stk_k, vz dp_k, vz fo_k, vz fy_k, vz hw_k, q0_k, s0_k, vj stm]) f_PW_259 d_PW_settle_38 hf_marks.2.2 rfl ?_
  refine zz_ladd d_PW_settle_41 ?_
  refine ab_aload_n d_PW_settle_42 rfl ?_
  refine ab_getf (fs := [vR f_ready, vR f_tape, vR f_reader, vR f_programs, vR f_subject, vR f_spans, vR f_threads, vR f_marks, vR f_oneMind, vR f_states, vR f_latest, vR f_matches, vR f_pieces, vR f_template, vR f_result, vR f_spare, vz cmp, vz ovs]) f_PW_62 d_PW_settle_43 hw_.2.2 rfl ?_
  refine ab_getf (fs := [sp0_o, vR wk_o, vR onw_o, vR tkn_o, vR se__o, vR cle_o, vR stk_o, vz dp_o, vz fo_o, vz chn_o, q0_o, s0_o, vz hw_o, vz fy_o, vj sto]) f_PW_260 d_PW_settle_46 hf_oneMind.2.2 rfl ?_
  refine zz_ladd d_PW_settle_49 ?_
  refine ab_aload_n d_PW_settle_50 rfl ?_
  refine ab_getf (fs := [vR f_ready, vR f_tape, vR f_reader, vR f_programs, vR f_subject, vR f_spans, vR f_threads, vR f_marks, vR f_oneMind, vR f_states, vR f_latest, vR f_matches, vR f_pieces, vR f_template, vR f_result, vR f_spare, vz cmp, vz ovs]) f_PW_69 d_PW_settle_51 hw_.2.2 rfl ?_
  refine ab_getf (fs := [vz mst_s, q0_s, vz vr_s, vz ro_s, vR cu_s, vz cn_s, vR eg_s, vR po_s, vR bg_s, vR bd_s, vz ct_s, vR sd_s, vz sc_s, vR se__s, vz sta_s, vR stk_s, vz arv_s, vj sts]) f_PW_261 d_PW_settle_54 hf_states.2.2 rfl ?_
  refine zz_ladd d_PW_settle_57 ?_
  refine ab_lstore d_PW_settle_58 (Nat.le_of_ble_eq_true rfl) (Nat.le_of_ble_eq_true rfl) rfl ?_
  change ab_W _ _ _ G 60 [some (vR w_), some (vz z1), some (vz z2), some (vj v2), none, some (vj (((stt + stm) + sto) + sts)), none] [] _
  refine ab_lload d_PW_settle_60 rfl ?_
  refine ab_lload_n d_PW_settle_62 rfl ?_
  have hmo_ : stt + stm + sto + sts ≤ v2 := by rw [hv2, hv1]; exact cmo
  refine zz_lcmp d_PW_settle_63 (by omega) (by omega) (fun c3a => ?_) (fun c3a c3b => ?_) (fun c3a => by exfalso; omega)
  · refine zz_if_le (tgt := 77) d_PW_settle_64 (by decide) (by decide) (fun c4 => ?_) (fun c4 => absurd c4 (by decide))
    refine ab_aload_n d_PW_settle_77 rfl ?_
    refine ab_getf (fs := [vR f_ready, vR f_tape, vR f_reader, vR f_programs, vR f_subject, vR f_spans, vR f_threads, vR f_marks, vR f_oneMind, vR f_states, vR f_latest, vR f_matches, vR f_pieces, vR f_template, vR f_result, vR f_spare, vz cmp, vz ovs]) f_PW_48 d_PW_settle_78 hw_.2.2 rfl ?_
    refine zz_lconst d_PW_settle_81 ?_
    change ab_W _ _ _ G 82 [some (vR w_), some (vz z1), some (vz z2), some (vj v2), none, some (vj (((stt + stm) + sto) + sts)), none] [vj 0, vR f_threads] _
    refine ab_putf (fs := [sp0_t, vR wk_t, vR nw_t, vR tn_t, vR nsp_t, vR tsp_t, vz nc_t, vz tc_t, vR se_t, vz sta_t, vR stk_t, vz fo_t, q0_t, s0_t, vz hw_t, vz fy_t, vj stt]) f_PW_255 (Or.inl rfl) d_PW_settle_82 hf_threads.2.2 (Nat.le_of_ble_eq_true rfl) (fun _ => ⟨rfl, rfl⟩) (hf_threads.2.1 (by decide)) ?_
    obtain ⟨G5, eG5⟩ : ∃ z : ab_G, z = List.set G f_threads (ab_ob 11 [sp0_t, vR wk_t, vR nw_t, vR tn_t, vR nsp_t, vR tsp_t, vz nc_t, vz tc_t, vR se_t, vz sta_t, vR stk_t, vz fo_t, q0_t, s0_t, vz hw_t, vz fy_t, vj 0]) := ⟨_, rfl⟩
    have hw_ := hw_.keep hf_threads eG5 (by decide)
    have hf_subject := hf_subject.keep hf_threads eG5 (by decide)
    have hby_ := hby_.keep hf_threads eG5 (by decide)
    have hco := hco.keep hf_threads eG5 (by decide)
    have hre := hre.keep hf_threads eG5 (by decide)
    have hho := hho.keep hf_threads eG5 (by decide)
    have hwk_t := hwk_t.keep hf_threads eG5 (by decide)
    have hnw_t := hnw_t.keep hf_threads eG5 (by omega)
    have htn_t := htn_t.keep hf_threads eG5 (by omega)
    have hnsp_t := hnsp_t.keep hf_threads eG5 (by omega)
    have htsp_t := htsp_t.keep hf_threads eG5 (by omega)
    have hse_t := hse_t.keep hf_threads eG5 (by decide)
    have hstk_t := hstk_t.keep hf_threads eG5 (by decide)
    have hf_marks := hf_marks.keep hf_threads eG5 (by decide)
    have hwk_k := hwk_k.keep hf_threads eG5 (by decide)
    have hmk_k := hmk_k.keep hf_threads eG5 (by decide)
    have hstk_k := hstk_k.keep hf_threads eG5 (by decide)
    have hf_oneMind := hf_oneMind.keep hf_threads eG5 (by decide)
    have hwk_o := hwk_o.keep hf_threads eG5 (by decide)
    have honw_o := honw_o.keep hf_threads eG5 (by decide)
    have hse__o := hse__o.keep hf_threads eG5 (by decide)
    have hcle_o := hcle_o.keep hf_threads eG5 (by decide)
    have hstk_o := hstk_o.keep hf_threads eG5 (by decide)
    have hf_states := hf_states.keep hf_threads eG5 (by decide)
    have hcu_s := hcu_s.keep hf_threads eG5 (by decide)
    have heg_s := heg_s.keep hf_threads eG5 (by decide)
    have hpo_s := hpo_s.keep hf_threads eG5 (by decide)
    have hbg_s := hbg_s.keep hf_threads eG5 (by decide)
    have hbd_s := hbd_s.keep hf_threads eG5 (by decide)
    have hsd_s := hsd_s.keep hf_threads eG5 (by decide)
    have hse__s := hse__s.keep hf_threads eG5 (by decide)
    have hstk_s := hstk_s.keep hf_threads eG5 (by decide)
    have hst := (fx.rf (o := o) (S := [32]) (G := G)).wr hf_threads eG5 (List.mem_singleton.mpr rfl)
    have pcsI_tkn_o := csI.fr hst pcsI_tkn_o (by decide) (by decide)
    have hlen := (z_len eG5).trans hlen
    have hsl := (z_sl hf_threads eG5 rfl).trans hsl
    have hfr := hfr.wr hf_threads eG5 (by decide)
    have hf_threads := hf_threads.kept eG5
    change ab_W _ _ _ (List.set G f_threads (ab_ob 11 [sp0_t, vR wk_t, vR nw_t, vR tn_t, vR nsp_t, vR tsp_t, vz nc_t, vz tc_t, vR se_t, vz sta_t, vR stk_t, vz fo_t, q0_t, s0_t, vz hw_t, vz fy_t, vj 0])) 85 [some (vR w_), some (vz z1), some (vz z2), some (vj v2), none, some (vj (((stt + stm) + sto) + sts)), none] [] _
    rw [← eG5]
    refine ab_aload_n d_PW_settle_85 rfl ?_
    refine ab_getf (fs := [vR f_ready, vR f_tape, vR f_reader, vR f_programs, vR f_subject, vR f_spans, vR f_threads, vR f_marks, vR f_oneMind, vR f_states, vR f_latest, vR f_matches, vR f_pieces, vR f_template, vR f_result, vR f_spare, vz cmp, vz ovs]) f_PW_55 d_PW_settle_86 hw_.2.2 rfl ?_
    refine zz_lconst d_PW_settle_89 ?_
    change ab_W _ _ _ G5 90 [some (vR w_), some (vz z1), some (vz z2), some (vj v2), none, some (vj (((stt + stm) + sto) + sts)), none] [vj 0, vR f_marks] _
    refine ab_putf (fs := [sp0_k, vR wk_k, vR mk_k, vz w_k, vz df_k, vR stk_k, vz dp_k, vz fo_k, vz fy_k, vz hw_k, q0_k, s0_k, vj stm]) f_PW_259 (Or.inl rfl) d_PW_settle_90 hf_marks.2.2 (Nat.le_of_ble_eq_true rfl) (fun _ => ⟨rfl, rfl⟩) (hf_marks.2.1 (by decide)) ?_
    obtain ⟨G6, eG6⟩ : ∃ z : ab_G, z = List.set G5 f_marks (ab_ob 2 [sp0_k, vR wk_k, vR mk_k, vz w_k, vz df_k, vR stk_k, vz dp_k, vz fo_k, vz fy_k, vz hw_k, q0_k, s0_k, vj 0]) := ⟨_, rfl⟩
    have hw_ := hw_.keep hf_marks eG6 (by decide)
    have hf_subject := hf_subject.keep hf_marks eG6 (by decide)
    have hby_ := hby_.keep hf_marks eG6 (by decide)
    have hco := hco.keep hf_marks eG6 (by decide)
    have hre := hre.keep hf_marks eG6 (by decide)
    have hho := hho.keep hf_marks eG6 (by decide)
    have hf_threads := hf_threads.keep hf_marks eG6 (by decide)
    have hwk_t := hwk_t.keep hf_marks eG6 (by decide)
    have hnw_t := hnw_t.keep hf_marks eG6 (by omega)
    have htn_t := htn_t.keep hf_marks eG6 (by omega)
    have hnsp_t := hnsp_t.keep hf_marks eG6 (by omega)
    have htsp_t := htsp_t.keep hf_marks eG6 (by omega)
    have hse_t := hse_t.keep hf_marks eG6 (by decide)
    have hstk_t := hstk_t.keep hf_marks eG6 (by decide)
    have hwk_k := hwk_k.keep hf_marks eG6 (by decide)
    have hmk_k := hmk_k.keep hf_marks eG6 (by decide)
    have hstk_k := hstk_k.keep hf_marks eG6 (by decide)
    have hf_oneMind := hf_oneMind.keep hf_marks eG6 (by decide)
    have hwk_o := hwk_o.keep hf_marks eG6 (by decide)
    have honw_o := honw_o.keep hf_marks eG6 (by decide)
    have hse__o := hse__o.keep hf_marks eG6 (by decide)
    have hcle_o := hcle_o.keep hf_marks eG6 (by decide)
    have hstk_o := hstk_o.keep hf_marks eG6 (by decide)
    have hf_states := hf_states.keep hf_marks eG6 (by decide)
    have hcu_s := hcu_s.keep hf_marks eG6 (by decide)
    have heg_s := heg_s.keep hf_marks eG6 (by decide)
    have hpo_s := hpo_s.keep hf_marks eG6 (by decide)
    have hbg_s := hbg_s.keep hf_marks eG6 (by decide)
    have hbd_s := hbd_s.keep hf_marks eG6 (by decide)
    have hsd_s := hsd_s.keep hf_marks eG6 (by decide)
    have hse__s := hse__s.keep hf_marks eG6 (by decide)
    have hstk_s := hstk_s.keep hf_marks eG6 (by decide)
    have hst := (fx.rf (o := o) (S := [44]) (G := G5)).wr hf_marks eG6 (List.mem_singleton.mpr rfl)
    have pcsI_tkn_o := csI.fr hst pcsI_tkn_o (by decide) (by decide)
    have hlen := (z_len eG6).trans hlen
    have hsl := (z_sl hf_marks eG6 rfl).trans hsl
    have hfr := hfr.wr hf_marks eG6 (by decide)
    have hf_marks := hf_marks.kept eG6
    change ab_W _ _ _ (List.set G5 f_marks (ab_ob 2 [sp0_k, vR wk_k, vR mk_k, vz w_k, vz df_k, vR stk_k, vz dp_k, vz fo_k, vz fy_k, vz hw_k, q0_k, s0_k, vj 0])) 93 [some (vR w_), some (vz z1), some (vz z2), some (vj v2), none, some (vj (((stt + stm) + sto) + sts)), none] [] _
    rw [← eG6]
    refine ab_aload_n d_PW_settle_93 rfl ?_
    refine ab_getf (fs := [vR f_ready, vR f_tape, vR f_reader, vR f_programs, vR f_subject, vR f_spans, vR f_threads, vR f_marks, vR f_oneMind, vR f_states, vR f_latest, vR f_matches, vR f_pieces, vR f_template, vR f_result, vR f_spare, vz cmp, vz ovs]) f_PW_62 d_PW_settle_94 hw_.2.2 rfl ?_
    refine zz_lconst d_PW_settle_97 ?_
    change ab_W _ _ _ G6 98 [some (vR w_), some (vz z1), some (vz z2), some (vj v2), none, some (vj (((stt + stm) + sto) + sts)), none] [vj 0, vR f_oneMind] _
    refine ab_putf (fs := [sp0_o, vR wk_o, vR onw_o, vR tkn_o, vR se__o, vR cle_o, vR stk_o, vz dp_o, vz fo_o, vz chn_o, q0_o, s0_o, vz hw_o, vz fy_o, vj sto]) f_PW_260 (Or.inl rfl) d_PW_settle_98 hf_oneMind.2.2 (Nat.le_of_ble_eq_true rfl) (fun _ => ⟨rfl, rfl⟩) (hf_oneMind.2.1 (by decide)) ?_
    obtain ⟨G7, eG7⟩ : ∃ z : ab_G, z = List.set G6 f_oneMind (ab_ob 3 [sp0_o, vR wk_o, vR onw_o, vR tkn_o, vR se__o, vR cle_o, vR stk_o, vz dp_o, vz fo_o, vz chn_o, q0_o, s0_o, vz hw_o, vz fy_o, vj 0]) := ⟨_, rfl⟩
    have hw_ := hw_.keep hf_oneMind eG7 (by decide)
    have hf_subject := hf_subject.keep hf_oneMind eG7 (by decide)
    have hby_ := hby_.keep hf_oneMind eG7 (by decide)
    have hco := hco.keep hf_oneMind eG7 (by decide)
    have hre := hre.keep hf_oneMind eG7 (by decide)
    have hho := hho.keep hf_oneMind eG7 (by decide)
    have hf_threads := hf_threads.keep hf_oneMind eG7 (by decide)
    have hwk_t := hwk_t.keep hf_oneMind eG7 (by decide)
    have hnw_t := hnw_t.keep hf_oneMind eG7 (by omega)
    have htn_t := htn_t.keep hf_oneMind eG7 (by omega)
    have hnsp_t := hnsp_t.keep hf_oneMind eG7 (by omega)
    have htsp_t := htsp_t.keep hf_oneMind eG7 (by omega)
    have hse_t := hse_t.keep hf_oneMind eG7 (by decide)
    have hstk_t := hstk_t.keep hf_oneMind eG7 (by decide)
    have hf_marks := hf_marks.keep hf_oneMind eG7 (by decide)
    have hwk_k := hwk_k.keep hf_oneMind eG7 (by decide)
    have hmk_k := hmk_k.keep hf_oneMind eG7 (by decide)
    have hstk_k := hstk_k.keep hf_oneMind eG7 (by decide)
    have hwk_o := hwk_o.keep hf_oneMind eG7 (by decide)
    have honw_o := honw_o.keep hf_oneMind eG7 (by decide)
    have hse__o := hse__o.keep hf_oneMind eG7 (by decide)
    have hcle_o := hcle_o.keep hf_oneMind eG7 (by decide)
    have hstk_o := hstk_o.keep hf_oneMind eG7 (by decide)
    have hf_states := hf_states.keep hf_oneMind eG7 (by decide)
    have hcu_s := hcu_s.keep hf_oneMind eG7 (by decide)
    have heg_s := heg_s.keep hf_oneMind eG7 (by decide)
    have hpo_s := hpo_s.keep hf_oneMind eG7 (by decide)
    have hbg_s := hbg_s.keep hf_oneMind eG7 (by decide)
    have hbd_s := hbd_s.keep hf_oneMind eG7 (by decide)
    have hsd_s := hsd_s.keep hf_oneMind eG7 (by decide)
    have hse__s := hse__s.keep hf_oneMind eG7 (by decide)
    have hstk_s := hstk_s.keep hf_oneMind eG7 (by decide)
    have hst := (fx.rf (o := o) (S := [50]) (G := G6)).wr hf_oneMind eG7 (List.mem_singleton.mpr rfl)
    have pcsI_tkn_o := csI.fr hst pcsI_tkn_o (by decide) (by decide)
    have hlen := (z_len eG7).trans hlen
    have hsl := (z_sl hf_oneMind eG7 rfl).trans hsl
    have hfr := hfr.wr hf_oneMind eG7 (by decide)
    have hf_oneMind := hf_oneMind.kept eG7
    change ab_W _ _ _ (List.set G6 f_oneMind (ab_ob 3 [sp0_o, vR wk_o, vR onw_o, vR tkn_o, vR se__o, vR cle_o, vR stk_o, vz dp_o, vz fo_o, vz chn_o, q0_o, s0_o, vz hw_o, vz fy_o, vj 0])) 101 [some (vR w_), some (vz z1), some (vz z2), some (vj v2), none, some (vj (((stt + stm) + sto) + sts)), none] [] _
    rw [← eG7]
    refine ab_aload_n d_PW_settle_101 rfl ?_
    refine ab_getf (fs := [vR f_ready, vR f_tape, vR f_reader, vR f_programs, vR f_subject, vR f_spans, vR f_threads, vR f_marks, vR f_oneMind, vR f_states, vR f_latest, vR f_matches, vR f_pieces, vR f_template, vR f_result, vR f_spare, vz cmp, vz ovs]) f_PW_69 d_PW_settle_102 hw_.2.2 rfl ?_
    refine zz_lconst d_PW_settle_105 ?_
    change ab_W _ _ _ G7 106 [some (vR w_), some (vz z1), some (vz z2), some (vj v2), none, some (vj (((stt + stm) + sto) + sts)), none] [vj 0, vR f_states] _
    refine ab_putf (fs := [vz mst_s, q0_s, vz vr_s, vz ro_s, vR cu_s, vz cn_s, vR eg_s, vR po_s, vR bg_s, vR bd_s, vz ct_s, vR sd_s, vz sc_s, vR se__s, vz sta_s, vR stk_s, vz arv_s, vj sts]) f_PW_261 (Or.inl rfl) d_PW_settle_106 hf_states.2.2 (Nat.le_of_ble_eq_true rfl) (fun _ => ⟨rfl, rfl⟩) (hf_states.2.1 (by decide)) ?_
    obtain ⟨G8, eG8⟩ : ∃ z : ab_G, z = List.set G7 f_states (ab_ob 8 [vz mst_s, q0_s, vz vr_s, vz ro_s, vR cu_s, vz cn_s, vR eg_s, vR po_s, vR bg_s, vR bd_s, vz ct_s, vR sd_s, vz sc_s, vR se__s, vz sta_s, vR stk_s, vz arv_s, vj 0]) := ⟨_, rfl⟩
    have hw_ := hw_.keep hf_states eG8 (by decide)
    have hf_subject := hf_subject.keep hf_states eG8 (by decide)
    have hby_ := hby_.keep hf_states eG8 (by decide)
    have hco := hco.keep hf_states eG8 (by decide)
    have hre := hre.keep hf_states eG8 (by decide)
    have hho := hho.keep hf_states eG8 (by decide)
    have hf_threads := hf_threads.keep hf_states eG8 (by decide)
    have hwk_t := hwk_t.keep hf_states eG8 (by decide)
    have hnw_t := hnw_t.keep hf_states eG8 (by omega)
    have htn_t := htn_t.keep hf_states eG8 (by omega)
    have hnsp_t := hnsp_t.keep hf_states eG8 (by omega)
    have htsp_t := htsp_t.keep hf_states eG8 (by omega)
    have hse_t := hse_t.keep hf_states eG8 (by decide)
    have hstk_t := hstk_t.keep hf_states eG8 (by decide)
    have hf_marks := hf_marks.keep hf_states eG8 (by decide)
    have hwk_k := hwk_k.keep hf_states eG8 (by decide)
    have hmk_k := hmk_k.keep hf_states eG8 (by decide)
    have hstk_k := hstk_k.keep hf_states eG8 (by decide)
    have hf_oneMind := hf_oneMind.keep hf_states eG8 (by decide)
    have hwk_o := hwk_o.keep hf_states eG8 (by decide)
    have honw_o := honw_o.keep hf_states eG8 (by decide)
    have hse__o := hse__o.keep hf_states eG8 (by decide)
    have hcle_o := hcle_o.keep hf_states eG8 (by decide)
    have hstk_o := hstk_o.keep hf_states eG8 (by decide)
    have hcu_s := hcu_s.keep hf_states eG8 (by decide)
    have heg_s := heg_s.keep hf_states eG8 (by decide)
    have hpo_s := hpo_s.keep hf_states eG8 (by decide)
    have hbg_s := hbg_s.keep hf_states eG8 (by decide)
    have hbd_s := hbd_s.keep hf_states eG8 (by decide)
    have hsd_s := hsd_s.keep hf_states eG8 (by decide)
    have hse__s := hse__s.keep hf_states eG8 (by decide)
    have hstk_s := hstk_s.keep hf_states eG8 (by decide)
    have hst := (fx.rf (o := o) (S := [60]) (G := G7)).wr hf_states eG8 (List.mem_singleton.mpr rfl)
    have pcsI_tkn_o := csI.fr hst pcsI_tkn_o (by decide) (by decide)
    have hlen := (z_len eG8).trans hlen
    have hsl := (z_sl hf_states eG8 rfl).trans hsl
    have hfr := hfr.wr hf_states eG8 (by decide)
    have hf_states := hf_states.kept eG8
    change ab_W _ _ _ (List.set G7 f_states (ab_ob 8 [vz mst_s, q0_s, vz vr_s, vz ro_s, vR cu_s, vz cn_s, vR eg_s, vR po_s, vR bg_s, vR bd_s, vz ct_s, vR sd_s, vz sc_s, vR se__s, vz sta_s, vR stk_s, vz arv_s, vj 0])) 109 [some (vR w_), some (vz z1), some (vz z2), some (vj v2), none, some (vj (((stt + stm) + sto) + sts)), none] [] _
    rw [← eG8]
    have psuI_f_subject : suI o G8 f_subject n m := ⟨by_, co, re, ho, f, C, Rs, H, mc, hf_subject, hby_, hco, hre, hho, (by omega), hsu⟩
    have pthI_f_threads : thI o G8 f_threads 0 := ⟨wk_t, nw_t, tn_t, nsp_t, tsp_t, se_t, stk_t, nc_t, tc_t, sta_t, fo_t, hw_t, fy_t, WK_t, NW_t, TN_t, NS_t, TS_t, SE_t, SK_t, l1_t, l2_t, l3_t, l4_t, sp0_t, q0_t, s0_t, hf_threads, hwk_t, hnw_t, htn_t, hnsp_t, htsp_t, hse_t, hstk_t, (by omega), jse_t, (by omega), (by omega)⟩
    have pmkI_f_marks : mkI o G8 f_marks nm ns 0 := ⟨wk_k, mk_k, stk_k, w_k, df_k, dp_k, fo_k, fy_k, hw_k, WK_k, M_k, SK_k, sp0_k, q0_k, s0_k, hf_marks, hwk_k, hmk_k, hstk_k, (by omega), hst_k, (by omega), (by omega)⟩
    have pomI_f_oneMind : omI o G8 f_oneMind on nt 0 := ⟨wk_o, onw_o, tkn_o, se__o, cle_o, stk_o, dp_o, fo_o, chn_o, hw_o, fy_o, WK_o, ON_o, SK_o, sp0_o, q0_o, s0_o, SE_o, CL_o, ct_o, P_o, nk_o, hf_oneMind, hwk_o, honw_o, hse__o, hcle_o, hstk_o, pcsI_tkn_o, hon_o, (by omega), (by omega)⟩
    have pstI_f_states : stI o G8 f_states cv cmp 0 := ⟨cu_s, eg_s, po_s, bg_s, bd_s, sd_s, se__s, stk_s, mst_s, q0_s, vr_s, ro_s, cn_s, ct_s, sc_s, sta_s, arv_s, CU_s, EG_s, PO_s, BG_s, BD_s, SD_s, SE_s, SK_s, hf_states, hcu_s, heg_s, hpo_s, hbg_s, hbd_s, hsd_s, hse__s, hstk_s, jcu_s, (by omega), (by omega), (by omega), jbg_s, jpo_s, jbd_s, jeg_s, (by omega), (by omega)⟩
    refine ab_vret rfl d_PW_settle_109 ?_
    rw [hQ]; exact ⟨rfl, hfr, hlen, hsl, hw_, pthI_f_threads, pmkI_f_marks, pomI_f_oneMind, pstI_f_states, psuI_f_subject⟩
  · refine zz_if_le (tgt := 77) d_PW_settle_64 (by decide) (by decide) (fun c9 => ?_) (fun c9 => absurd c9 (by decide))
    refine ab_aload_n d_PW_settle_77 rfl ?_
    refine ab_getf (fs := [vR f_ready, vR f_tape, vR f_reader, vR f_programs, vR f_subject, vR f_spans, vR f_threads, vR f_marks, vR f_oneMind, vR f_states, vR f_latest, vR f_matches, vR f_pieces, vR f_template, vR f_result, vR f_spare, vz cmp, vz ovs]) f_PW_48 d_PW_settle_78 hw_.2.2 rfl ?_
    refine zz_lconst d_PW_settle_81 ?_
    change ab_W _ _ _ G 82 [some (vR w_), some (vz z1), some (vz z2), some (vj v2), none, some (vj (((stt + stm) + sto) + sts)), none] [vj 0, vR f_threads] _
    refine ab_putf (fs := [sp0_t, vR wk_t, vR nw_t, vR tn_t, vR nsp_t, vR tsp_t, vz nc_t, vz tc_t, vR se_t, vz sta_t, vR stk_t, vz fo_t, q0_t, s0_t, vz hw_t, vz fy_t, vj stt]) f_PW_255 (Or.inl rfl) d_PW_settle_82 hf_threads.2.2 (Nat.le_of_ble_eq_true rfl) (fun _ => ⟨rfl, rfl⟩) (hf_threads.2.1 (by decide)) ?_
    obtain ⟨G10, eG10⟩ : ∃ z : ab_G, z = List.set G f_threads (ab_ob 11 [sp0_t, vR wk_t, vR nw_t, vR tn_t, vR nsp_t, vR tsp_t, vz nc_t, vz tc_t, vR se_t, vz sta_t, vR stk_t, vz fo_t, q0_t, s0_t, vz hw_t, vz fy_t, vj 0]) := ⟨_, rfl⟩
    have hw_ := hw_.keep hf_threads eG10 (by decide)
    have hf_subject := hf_subject.keep hf_threads eG10 (by decide)
    have hby_ := hby_.keep hf_threads eG10 (by decide)
    have hco := hco.keep hf_threads eG10 (by decide)
    have hre := hre.keep hf_threads eG10 (by decide)
    have hho := hho.keep hf_threads eG10 (by decide)
    have hwk_t := hwk_t.keep hf_threads eG10 (by decide)
    have hnw_t := hnw_t.keep hf_threads eG10 (by omega)
    have htn_t := htn_t.keep hf_threads eG10 (by omega)
    have hnsp_t := hnsp_t.keep hf_threads eG10 (by omega)
    have htsp_t := htsp_t.keep hf_threads eG10 (by omega)
    have hse_t := hse_t.keep hf_threads eG10 (by decide)
    have hstk_t := hstk_t.keep hf_threads eG10 (by decide)
    have hf_marks := hf_marks.keep hf_threads eG10 (by decide)
    have hwk_k := hwk_k.keep hf_threads eG10 (by decide)
    have hmk_k := hmk_k.keep hf_threads eG10 (by decide)
    have hstk_k := hstk_k.keep hf_threads eG10 (by decide)
    have hf_oneMind := hf_oneMind.keep hf_threads eG10 (by decide)
    have hwk_o := hwk_o.keep hf_threads eG10 (by decide)
    have honw_o := honw_o.keep hf_threads eG10 (by decide)
    have hse__o := hse__o.keep hf_threads eG10 (by decide)
    have hcle_o := hcle_o.keep hf_threads eG10 (by decide)
    have hstk_o := hstk_o.keep hf_threads eG10 (by decide)
    have hf_states := hf_states.keep hf_threads eG10 (by decide)
    have hcu_s := hcu_s.keep hf_threads eG10 (by decide)
    have heg_s := heg_s.keep hf_threads eG10 (by decide)
    have hpo_s := hpo_s.keep hf_threads eG10 (by decide)
    have hbg_s := hbg_s.keep hf_threads eG10 (by decide)
    have hbd_s := hbd_s.keep hf_threads eG10 (by decide)
    have hsd_s := hsd_s.keep hf_threads eG10 (by decide)
    have hse__s := hse__s.keep hf_threads eG10 (by decide)
    have hstk_s := hstk_s.keep hf_threads eG10 (by decide)
    have hst := (fx.rf (o := o) (S := [32]) (G := G)).wr hf_threads eG10 (List.mem_singleton.mpr rfl)
    have pcsI_tkn_o := csI.fr hst pcsI_tkn_o (by decide) (by decide)
    have hlen := (z_len eG10).trans hlen
    have hsl := (z_sl hf_threads eG10 rfl).trans hsl
    have hfr := hfr.wr hf_threads eG10 (by decide)
    have hf_threads := hf_threads.kept eG10
    change ab_W _ _ _ (List.set G f_threads (ab_ob 11 [sp0_t, vR wk_t, vR nw_t, vR tn_t, vR nsp_t, vR tsp_t, vz nc_t, vz tc_t, vR se_t, vz sta_t, vR stk_t, vz fo_t, q0_t, s0_t, vz hw_t, vz fy_t, vj 0])) 85 [some (vR w_), some (vz z1), some (vz z2), some (vj v2), none, some (vj (((stt + stm) + sto) + sts)), none] [] _
    rw [← eG10]
    refine ab_aload_n d_PW_settle_85 rfl ?_
    refine ab_getf (fs := [vR f_ready, vR f_tape, vR f_reader, vR f_programs, vR f_subject, vR f_spans, vR f_threads, vR f_marks, vR f_oneMind, vR f_states, vR f_latest, vR f_matches, vR f_pieces, vR f_template, vR f_result, vR f_spare, vz cmp, vz ovs]) f_PW_55 d_PW_settle_86 hw_.2.2 rfl ?_
    refine zz_lconst d_PW_settle_89 ?_
    change ab_W _ _ _ G10 90 [some (vR w_), some (vz z1), some (vz z2), some (vj v2), none, some (vj (((stt + stm) + sto) + sts)), none] [vj 0, vR f_marks] _
    refine ab_putf (fs := [sp0_k, vR wk_k, vR mk_k, vz w_k, vz df_k, vR stk_k, vz dp_k, vz fo_k, vz fy_k, vz hw_k, q0_k, s0_k, vj stm]) f_PW_259 (Or.inl rfl) d_PW_settle_90 hf_marks.2.2 (Nat.le_of_ble_eq_true rfl) (fun _ => ⟨rfl, rfl⟩) (hf_marks.2.1 (by decide)) ?_
    obtain ⟨G11, eG11⟩ : ∃ z : ab_G, z = List.set G10 f_marks (ab_ob 2 [sp0_k, vR wk_k, vR mk_k, vz w_k, vz df_k, vR stk_k, vz dp_k, vz fo_k, vz fy_k, vz hw_k, q0_k, s0_k, vj 0]) := ⟨_, rfl⟩
    have hw_ := hw_.keep hf_marks eG11 (by decide)
    have hf_subject := hf_subject.keep hf_marks eG11 (by decide)
    have hby_ := hby_.keep hf_marks eG11 (by decide)
    have hco := hco.keep hf_marks eG11 (by decide)
    have hre := hre.keep hf_marks eG11 (by decide)
    have hho := hho.keep hf_marks eG11 (by decide)
    have hf_threads := hf_threads.keep hf_marks eG11 (by decide)
    have hwk_t := hwk_t.keep hf_marks eG11 (by decide)
    have hnw_t := hnw_t.keep hf_marks eG11 (by omega)
    have htn_t := htn_t.keep hf_marks eG11 (by omega)
    have hnsp_t := hnsp_t.keep hf_marks eG11 (by omega)
    have htsp_t := htsp_t.keep hf_marks eG11 (by omega)
    have hse_t := hse_t.keep hf_marks eG11 (by decide)
    have hstk_t := hstk_t.keep hf_marks eG11 (by decide)
    have hwk_k := hwk_k.keep hf_marks eG11 (by decide)
    have hmk_k := hmk_k.keep hf_marks eG11 (by decide)
    have hstk_k := hstk_k.keep hf_marks eG11 (by decide)
    have hf_oneMind := hf_oneMind.keep hf_marks eG11 (by decide)
    have hwk_o := hwk_o.keep hf_marks eG11 (by decide)
    have honw_o := honw_o.keep hf_marks eG11 (by decide)
    have hse__o := hse__o.keep hf_marks eG11 (by decide)
    have hcle_o := hcle_o.keep hf_marks eG11 (by decide)
    have hstk_o := hstk_o.keep hf_marks eG11 (by decide)
    have hf_states := hf_states.keep hf_marks eG11 (by decide)
    have hcu_s := hcu_s.keep hf_marks eG11 (by decide)
    have heg_s := heg_s.keep hf_marks eG11 (by decide)
    have hpo_s := hpo_s.keep hf_marks eG11 (by decide)
    have hbg_s := hbg_s.keep hf_marks eG11 (by decide)
    have hbd_s := hbd_s.keep hf_marks eG11 (by decide)
    have hsd_s := hsd_s.keep hf_marks eG11 (by decide)
    have hse__s := hse__s.keep hf_marks eG11 (by decide)
    have hstk_s := hstk_s.keep hf_marks eG11 (by decide)
    have hst := (fx.rf (o := o) (S := [44]) (G := G10)).wr hf_marks eG11 (List.mem_singleton.mpr rfl)
    have pcsI_tkn_o := csI.fr hst pcsI_tkn_o (by decide) (by decide)
    have hlen := (z_len eG11).trans hlen
    have hsl := (z_sl hf_marks eG11 rfl).trans hsl
    have hfr := hfr.wr hf_marks eG11 (by decide)
    have hf_marks := hf_marks.kept eG11
    change ab_W _ _ _ (List.set G10 f_marks (ab_ob 2 [sp0_k, vR wk_k, vR mk_k, vz w_k, vz df_k, vR stk_k, vz dp_k, vz fo_k, vz fy_k, vz hw_k, q0_k, s0_k, vj 0])) 93 [some (vR w_), some (vz z1), some (vz z2), some (vj v2), none, some (vj (((stt + stm) + sto) + sts)), none] [] _
    rw [← eG11]
    refine ab_aload_n d_PW_settle_93 rfl ?_
    refine ab_getf (fs := [vR f_ready, vR f_tape, vR f_reader, vR f_programs, vR f_subject, vR f_spans, vR f_threads, vR f_marks, vR f_oneMind, vR f_states, vR f_latest, vR f_matches, vR f_pieces, vR f_template, vR f_result, vR f_spare, vz cmp, vz ovs]) f_PW_62 d_PW_settle_94 hw_.2.2 rfl ?_
    refine zz_lconst d_PW_settle_97 ?_
    change ab_W _ _ _ G11 98 [some (vR w_), some (vz z1), some (vz z2), some (vj v2), none, some (vj (((stt + stm) + sto) + sts)), none] [vj 0, vR f_oneMind] _
    refine ab_putf (fs := [sp0_o, vR wk_o, vR onw_o, vR tkn_o, vR se__o, vR cle_o, vR stk_o, vz dp_o, vz fo_o, vz chn_o, q0_o, s0_o, vz hw_o, vz fy_o, vj sto]) f_PW_260 (Or.inl rfl) d_PW_settle_98 hf_oneMind.2.2 (Nat.le_of_ble_eq_true rfl) (fun _ => ⟨rfl, rfl⟩) (hf_oneMind.2.1 (by decide)) ?_
    obtain ⟨G12, eG12⟩ : ∃ z : ab_G, z = List.set G11 f_oneMind (ab_ob 3 [sp0_o, vR wk_o, vR onw_o, vR tkn_o, vR se__o, vR cle_o, vR stk_o, vz dp_o, vz fo_o, vz chn_o, q0_o, s0_o, vz hw_o, vz fy_o, vj 0]) := ⟨_, rfl⟩
    have hw_ := hw_.keep hf_oneMind eG12 (by decide)
    have hf_subject := hf_subject.keep hf_oneMind eG12 (by decide)
    have hby_ := hby_.keep hf_oneMind eG12 (by decide)
    have hco := hco.keep hf_oneMind eG12 (by decide)
    have hre := hre.keep hf_oneMind eG12 (by decide)
    have hho := hho.keep hf_oneMind eG12 (by decide)
    have hf_threads := hf_threads.keep hf_oneMind eG12 (by decide)
    have hwk_t := hwk_t.keep hf_oneMind eG12 (by decide)
    have hnw_t := hnw_t.keep hf_oneMind eG12 (by omega)
    have htn_t := htn_t.keep hf_oneMind eG12 (by omega)
    have hnsp_t := hnsp_t.keep hf_oneMind eG12 (by omega)
    have htsp_t := htsp_t.keep hf_oneMind eG12 (by omega)
    have hse_t := hse_t.keep hf_oneMind eG12 (by decide)
    have hstk_t := hstk_t.keep hf_oneMind eG12 (by decide)
    have hf_marks := hf_marks.keep hf_oneMind eG12 (by decide)
    have hwk_k := hwk_k.keep hf_oneMind eG12 (by decide)
    have hmk_k := hmk_k.keep hf_oneMind eG12 (by decide)
    have hstk_k := hstk_k.keep hf_oneMind eG12 (by decide)
    have hwk_o := hwk_o.keep hf_oneMind eG12 (by decide)
    have honw_o := honw_o.keep hf_oneMind eG12 (by decide)
    have hse__o := hse__o.keep hf_oneMind eG12 (by decide)
    have hcle_o := hcle_o.keep hf_oneMind eG12 (by decide)
    have hstk_o := hstk_o.keep hf_oneMind eG12 (by decide)
    have hf_states := hf_states.keep hf_oneMind eG12 (by decide)
    have hcu_s := hcu_s.keep hf_oneMind eG12 (by decide)
    have heg_s := heg_s.keep hf_oneMind eG12 (by decide)
    have hpo_s := hpo_s.keep hf_oneMind eG12 (by decide)
    have hbg_s := hbg_s.keep hf_oneMind eG12 (by decide)
    have hbd_s := hbd_s.keep hf_oneMind eG12 (by decide)
    have hsd_s := hsd_s.keep hf_oneMind eG12 (by decide)
    have hse__s := hse__s.keep hf_oneMind eG12 (by decide)
    have hstk_s := hstk_s.keep hf_oneMind eG12 (by decide)
    have hst := (fx.rf (o := o) (S := [50]) (G := G11)).wr hf_oneMind eG12 (List.mem_singleton.mpr rfl)
    have pcsI_tkn_o := csI.fr hst pcsI_tkn_o (by decide) (by decide)
    have hlen := (z_len eG12).trans hlen
    have hsl := (z_sl hf_oneMind eG12 rfl).trans hsl
    have hfr := hfr.wr hf_oneMind eG12 (by decide)
    have hf_oneMind := hf_oneMind.kept eG12
    change ab_W _ _ _ (List.set G11 f_oneMind (ab_ob 3 [sp0_o, vR wk_o, vR onw_o, vR tkn_o, vR se__o, vR cle_o, vR stk_o, vz dp_o, vz fo_o, vz chn_o, q0_o, s0_o, vz hw_o, vz fy_o, vj 0])) 101 [some (vR w_), some (vz z1), some (vz z2), some (vj v2), none, some (vj (((stt + stm) + sto) + sts)), none] [] _
    rw [← eG12]
    refine ab_aload_n d_PW_settle_101 rfl ?_
    refine ab_getf (fs := [vR f_ready, vR f_tape, vR f_reader, vR f_programs, vR f_subject, vR f_spans, vR f_threads, vR f_marks, vR f_oneMind, vR f_states, vR f_latest, vR f_matches, vR f_pieces, vR f_template, vR f_result, vR f_spare, vz cmp, vz ovs]) f_PW_69 d_PW_settle_102 hw_.2.2 rfl ?_
    refine zz_lconst d_PW_settle_105 ?_
    change ab_W _ _ _ G12 106 [some (vR w_), some (vz z1), some (vz z2), some (vj v2), none, some (vj (((stt + stm) + sto) + sts)), none] [vj 0, vR f_states] _
    refine ab_putf (fs := [vz mst_s, q0_s, vz vr_s, vz ro_s, vR cu_s, vz cn_s, vR eg_s, vR po_s, vR bg_s, vR bd_s, vz ct_s, vR sd_s, vz sc_s, vR se__s, vz sta_s, vR stk_s, vz arv_s, vj sts]) f_PW_261 (Or.inl rfl) d_PW_settle_106 hf_states.2.2 (Nat.le_of_ble_eq_true rfl) (fun _ => ⟨rfl, rfl⟩) (hf_states.2.1 (by decide)) ?_
    obtain ⟨G13, eG13⟩ : ∃ z : ab_G, z = List.set G12 f_states (ab_ob 8 [vz mst_s, q0_s, vz vr_s, vz ro_s, vR cu_s, vz cn_s, vR eg_s, vR po_s, vR bg_s, vR bd_s, vz ct_s, vR sd_s, vz sc_s, vR se__s, vz sta_s, vR stk_s, vz arv_s, vj 0]) := ⟨_, rfl⟩
    have hw_ := hw_.keep hf_states eG13 (by decide)
    have hf_subject := hf_subject.keep hf_states eG13 (by decide)
    have hby_ := hby_.keep hf_states eG13 (by decide)
    have hco := hco.keep hf_states eG13 (by decide)
    have hre := hre.keep hf_states eG13 (by decide)
    have hho := hho.keep hf_states eG13 (by decide)
    have hf_threads := hf_threads.keep hf_states eG13 (by decide)
    have hwk_t := hwk_t.keep hf_states eG13 (by decide)
    have hnw_t := hnw_t.keep hf_states eG13 (by omega)
    have htn_t := htn_t.keep hf_states eG13 (by omega)
    have hnsp_t := hnsp_t.keep hf_states eG13 (by omega)
    have htsp_t := htsp_t.keep hf_states eG13 (by omega)
    have hse_t := hse_t.keep hf_states eG13 (by decide)
    have hstk_t := hstk_t.keep hf_states eG13 (by decide)
    have hf_marks := hf_marks.keep hf_states eG13 (by decide)
    have hwk_k := hwk_k.keep hf_states eG13 (by decide)
    have hmk_k := hmk_k.keep hf_states eG13 (by decide)
    have hstk_k := hstk_k.keep hf_states eG13 (by decide)
    have hf_oneMind := hf_oneMind.keep hf_states eG13 (by decide)
    have hwk_o := hwk_o.keep hf_states eG13 (by decide)
    have honw_o := honw_o.keep hf_states eG13 (by decide)
    have hse__o := hse__o.keep hf_states eG13 (by decide)
    have hcle_o := hcle_o.keep hf_states eG13 (by decide)
    have hstk_o := hstk_o.keep hf_states eG13 (by decide)
    have hcu_s := hcu_s.keep hf_states eG13 (by decide)
    have heg_s := heg_s.keep hf_states eG13 (by decide)
    have hpo_s := hpo_s.keep hf_states eG13 (by decide)
    have hbg_s := hbg_s.keep hf_states eG13 (by decide)
    have hbd_s := hbd_s.keep hf_states eG13 (by decide)
    have hsd_s := hsd_s.keep hf_states eG13 (by decide)
    have hse__s := hse__s.keep hf_states eG13 (by decide)
    have hstk_s := hstk_s.keep hf_states eG13 (by decide)
    have hst := (fx.rf (o := o) (S := [60]) (G := G12)).wr hf_states eG13 (List.mem_singleton.mpr rfl)
    have pcsI_tkn_o := csI.fr hst pcsI_tkn_o (by decide) (by decide)
    have hlen := (z_len eG13).trans hlen
    have hsl := (z_sl hf_states eG13 rfl).trans hsl
    have hfr := hfr.wr hf_states eG13 (by decide)
    have hf_states := hf_states.kept eG13
    change ab_W _ _ _ (List.set G12 f_states (ab_ob 8 [vz mst_s, q0_s, vz vr_s, vz ro_s, vR cu_s, vz cn_s, vR eg_s, vR po_s, vR bg_s, vR bd_s, vz ct_s, vR sd_s, vz sc_s, vR se__s, vz sta_s, vR stk_s, vz arv_s, vj 0])) 109 [some (vR w_), some (vz z1), some (vz z2), some (vj v2), none, some (vj (((stt + stm) + sto) + sts)), none] [] _
    rw [← eG13]
    have psuI_f_subject : suI o G13 f_subject n m := ⟨by_, co, re, ho, f, C, Rs, H, mc, hf_subject, hby_, hco, hre, hho, (by omega), hsu⟩
    have pthI_f_threads : thI o G13 f_threads 0 := ⟨wk_t, nw_t, tn_t, nsp_t, tsp_t, se_t, stk_t, nc_t, tc_t, sta_t, fo_t, hw_t, fy_t, WK_t, NW_t, TN_t, NS_t, TS_t, SE_t, SK_t, l1_t, l2_t, l3_t, l4_t, sp0_t, q0_t, s0_t, hf_threads, hwk_t, hnw_t, htn_t, hnsp_t, htsp_t, hse_t, hstk_t, (by omega), jse_t, (by omega), (by omega)⟩
    have pmkI_f_marks : mkI o G13 f_marks nm ns 0 := ⟨wk_k, mk_k, stk_k, w_k, df_k, dp_k, fo_k, fy_k, hw_k, WK_k, M_k, SK_k, sp0_k, q0_k, s0_k, hf_marks, hwk_k, hmk_k, hstk_k, (by omega), hst_k, (by omega), (by omega)⟩
    have pomI_f_oneMind : omI o G13 f_oneMind on nt 0 := ⟨wk_o, onw_o, tkn_o, se__o, cle_o, stk_o, dp_o, fo_o, chn_o, hw_o, fy_o, WK_o, ON_o, SK_o, sp0_o, q0_o, s0_o, SE_o, CL_o, ct_o, P_o, nk_o, hf_oneMind, hwk_o, honw_o, hse__o, hcle_o, hstk_o, pcsI_tkn_o, hon_o, (by omega), (by omega)⟩
    have pstI_f_states : stI o G13 f_states cv cmp 0 := ⟨cu_s, eg_s, po_s, bg_s, bd_s, sd_s, se__s, stk_s, mst_s, q0_s, vr_s, ro_s, cn_s, ct_s, sc_s, sta_s, arv_s, CU_s, EG_s, PO_s, BG_s, BD_s, SD_s, SE_s, SK_s, hf_states, hcu_s, heg_s, hpo_s, hbg_s, hbd_s, hsd_s, hse__s, hstk_s, jcu_s, (by omega), (by omega), (by omega), jbg_s, jpo_s, jbd_s, jeg_s, (by omega), (by omega)⟩
    refine ab_vret rfl d_PW_settle_109 ?_
    rw [hQ]; exact ⟨rfl, hfr, hlen, hsl, hw_, pthI_f_threads, pmkI_f_marks, pomI_f_oneMind, pstI_f_states, psuI_f_subject⟩
set_option maxRecDepth 100000 in
set_option maxHeartbeats 4000000 in
theorem z0_PW_run {X : ab_X} {d : Nat} {o : Nat → Nat} {G : ab_G} {w_ : Nat} {f_ready : Nat} {f_tape : Nat} {f_reader : Nat} {f_programs : Nat} {f_subject : Nat} {f_spans : Nat} {f_threads : Nat} {f_marks : Nat} {f_oneMind : Nat} {f_states : Nat} {f_latest : Nat} {f_matches : Nat} {f_pieces : Nat} {f_template : Nat} {f_result : Nat} {f_spare : Nat} {cmp : Int} {ovs : Int} {q : Nat} {lq : Nat} {nr : Nat} {cv : Int → Int} {on : Nat} {mi : Int} {nm : Nat} {ns : Nat} {n : Int} {m : Nat} {SP : Int → Int} {hw : Int} {p : Int} {stm : Int} {sz : Int} (hw_ : cc o G w_ 18 (ab_ob 0 [vR f_ready, vR f_tape, vR f_reader, vR f_programs, vR f_subject, vR f_spans, vR f_threads, vR f_marks, vR f_oneMind, vR f_states, vR f_latest, vR f_matches, vR f_pieces, vR f_template, vR f_result, vR f_spare, vz cmp, vz ovs])) (hf_spans : cc o G f_spans 31 (za 20 SP)) (h17 : cc o G 17 17 (za 12 zFC)) (pmkI_f_marks : mkI o G f_marks nm ns stm) (psuI_f_subject : suI o G f_subject n m) (ppgB_q : pgB o G q lq nr cv cmp on mi sz) (n18 : ab_n0 = 18) (chw : 0 ≤ hw ∧ hw ≤ 2 ∧ 0 ≤ p ∧ p ≤ n) (jsp : rgs SP 20 (-1) 2000) (rc : 64 * G.length + 4400000 ≤ 64 * (ab_n0 + room_1.cells) + (64 * nm + 64 * stC ns)) (rs : ab_slots G + 2140000 ≤ room_1.slots + (zT nm 52026 + stT ns)) (hd : 15 ≤ d) : ab_F X d y_PW_run (.code y_PW_run b_PW_run 5 (some (.int))) [vR w_, vR q, vz hw, vz 0, vz p] G (fun oc G2 => ∃ o2 : Nat → Nat, ∃ nm2 : Nat, ∃ ns2 : Nat, ∃ SP2 : Int → Int, ∃ r : Int, ∃ s2_ : Int, oc = .returned (some (vz r)) ∧ fx o o2 [31, 44, 45, 46, 47] G G2 ∧ cc o2 G2 f_spans 31 (za 20 SP2) ∧ mkI o2 G2 f_marks nm2 ns2 s2_ ∧ suI o2 G2 f_subject n m ∧ pgB o2 G2 q lq nr cv cmp on mi sz ∧ (stm ≤ s2_ ∧ s2_ ≤ stm + 1665 * (n + 1) + 1665) ∧ (-1 ≤ r ∧ r ≤ n) ∧ (rgs SP2 20 (-1) 2000) ∧ (64 * G2.length + (64 * nm + 64 * stC ns) ≤ 64 * G.length + (64 * nm2 + 64 * stC ns2)) ∧ (ab_slots G2 + (zT nm 52026 + stT ns) ≤ ab_slots G + (zT nm2 52026 + stT ns2))) := by
  refine ab_F_of (by decide +kernel) (Nat.le_of_ble_eq_true rfl) ?_
  obtain ⟨Q, hQ⟩ : ∃ z : Outcome → ab_G → Prop, z = (fun oc G2 => ∃ o2 : Nat → Nat, ∃ nm2 : Nat, ∃ ns2 : Nat, ∃ SP2 : Int → Int, ∃ r : Int, ∃ s2_ : Int, oc = .returned (some (vz r)) ∧ fx o o2 [31, 44, 45, 46, 47] G G2 ∧ cc o2 G2 f_spans 31 (za 20 SP2) ∧ mkI o2 G2 f_marks nm2 ns2 s2_ ∧ suI o2 G2 f_subject n m ∧ pgB o2 G2 q lq nr cv cmp on mi sz ∧ (stm ≤ s2_ ∧ s2_ ≤ stm + 1665 * (n + 1) + 1665) ∧ (-1 ≤ r ∧ r ≤ n) ∧ (rgs SP2 20 (-1) 2000) ∧ (64 * G2.length + (64 * nm + 64 * stC ns) ≤ 64 * G.length + (64 * nm2 + 64 * stC ns2)) ∧ (ab_slots G2 + (zT nm 52026 + stT ns) ≤ ab_slots G + (zT nm2 52026 + stT ns2))) := ⟨_, rfl⟩
  rw [← hQ]
  change ab_W X (ab_pl y_PW_run b_PW_run 5 (some (.int))) d G 0 [some (vR w_), some (vR q), some (vz hw), some (vz 0), some (vz p)] [] Q
  have hfr : fx o o [31, 44, 45, 46, 47] G G := fx.rf
  obtain ⟨ki, ne, ot, cnt, fi, la, ra, ru, gr, wi, fl, ve, na, nl, K, N, O, RR, NA, NL, hq, hki, hne, hot, hra, hna, hnl, cq, hpu, hp, hr, hch, cru, ck9, cfi, cgr, cfl, hpo, hmi, hvc, cve, jnl, csz⟩ := ppgB_q
  obtain ⟨by_, co, re, ho, f, C, Rs, H, mc, hf_subject, hby_, hco, hre, hho, csu, hsu⟩ := psuI_f_subject
  have hq1 := stT_le ns
  have hq2 := stC_le ns
  have hq3 := onP_le on
  have hq4 := onS_le on
  have hnm_ := pmkI_f_marks.b
  have hzt_ : zT nm 52026 ≤ 156078 := zT_le (c := 52026) (by omega) rfl
  obtain ⟨wk_k, mk_k, stk_k, w_k, df_k, dp_k, fo_k, fy_k, hw_k, WK_k, M_k, SK_k, sp0_k, q0_k, s0_k, hf_marks, hwk_k, hmk_k, hstk_k, cn_k, hst_k, cfo_k, cst0_k⟩ := pmkI_f_marks
  refine ab_iload_n d_PW_run_0 rfl ?_
  refine zz_iconst d_PW_run_1 ?_
  refine zz_icmp_ne (tgt := 25) d_PW_run_2 (by decide) (by decide) (by decide) (fun c5 => ?_) (fun c5 => absurd c5 (by decide))
  refine ab_iload_n d_PW_run_25 rfl ?_
  refine zz_iconst d_PW_run_26 ?_
  refine zz_icmp_ne (tgt := 65) d_PW_run_27 (by decide) (by decide) (by decide) (fun c6 => ?_) (fun c6 => absurd c6 (by decide))
  refine ab_iload_n d_PW_run_65 rfl ?_
  refine zz_iconst d_PW_run_66 ?_
  refine zz_icmp_ne (tgt := 90) d_PW_run_67 (by decide) (by decide) (by decide) (fun c7 => ?_) (fun c7 => absurd c7 (by decide))
  refine ab_aload_n d_PW_run_90 rfl ?_
  refine ab_getf (fs := [vR f_ready, vR f_tape, vR f_reader, vR f_programs, vR f_subject, vR f_spans, vR f_threads, vR f_marks, vR f_oneMind, vR f_states, vR f_latest, vR f_matches, vR f_pieces, vR f_template, vR f_result, vR f_spare, vz cmp, vz ovs]) f_PW_55 d_PW_run_91 hw_.2.2 rfl ?_
  refine ab_aload_n d_PW_run_94 rfl ?_
  refine ab_aload_n d_PW_run_95 rfl ?_
  refine ab_getf (fs := [vR f_ready, vR f_tape, vR f_reader, vR f_programs, vR f_subject, vR f_spans, vR f_threads, vR f_marks, vR f_oneMind, vR f_states, vR f_latest, vR f_matches, vR f_pieces, vR f_template, vR f_result, vR f_spare, vz cmp, vz ovs]) f_PW_38 d_PW_run_96 hw_.2.2 rfl ?_
  refine ab_iload_n d_PW_run_99 rfl ?_
  refine ab_iload d_PW_run_100 rfl ?_
  refine ab_aload_n d_PW_run_102 rfl ?_
  refine ab_getf (fs := [vR f_ready, vR f_tape, vR f_reader, vR f_programs, vR f_subject, vR f_spans, vR f_threads, vR f_marks, vR f_oneMind, vR f_states, vR f_latest, vR f_matches, vR f_pieces, vR f_template, vR f_result, vR f_spare, vz cmp, vz ovs]) f_PW_42 d_PW_run_103 hw_.2.2 rfl ?_
  refine ab_callV (d' := d - 1) (as := [vR q, vR f_subject, vz hw, vz p, vR f_spans]) (st := []) (r := _) (z_MK_begin (o := o) (q := q) (lq := lq) (ki := ki) (ne := ne) (ot := ot) (cnt := cnt) (fi := fi) (la := la) (ra := ra) (ru := ru) (gr := gr) (wi := wi) (sz := sz) (fl := fl) (ve := ve) (mi := mi) (na := na) (nl := nl) (s := f_subject) (by_ := by_) (co := co) (re := re) (ho := ho) (n := n) (a := f_marks) (sp := f_spans) (wk := wk_k) (mk := mk_k) (stk := stk_k) (dp := dp_k) (fo := fo_k) (hw := hw) (stp := stm) (M := M_k) (nm := nm) (q0 := q0_k) (s0 := s0_k) (sp0 := sp0_k) (from_ := p) (hw0 := hw_k) (fy0 := fy_k) (w0 := w_k) (df0 := df_k) hf_marks hmk_k hq hf_subject (by omega) (by omega) (by omega) (by omega) (by omega) (by omega) (by omega)) (fun oc G2 h => by rcases h with ⟨_, _, _, _, _, _, h, _⟩ <;> exact ⟨_, h⟩) (by omega) m_MK_begin ml_PW_189 im_MK_begin se_MK_begin c_MK hf_marks.2.2 (Nat.le_of_ble_eq_true rfl) d_PW_run_106 rfl ?_
  intro v G8 hq
  rcases hq with ⟨o9, w210, fy211, mk212, nm213, M214, hv, hfk, hNf_marks, hNmk212, hq15, hq16, hq17, hq18, hq19, hq20, hq21⟩
  cases hv
  have hw_ := hfk.get hw_ (by decide)
  have hf_spans := hfk.get hf_spans (by decide)
  have h17 := hfk.get h17 (by decide)
  have hq := hfk.get hq (by simp only [List.mem_cons, List.not_mem_nil, or_false]; omega)
  have hki := hfk.get hki (by simp only [List.mem_cons, List.not_mem_nil, or_false]; omega)
  have hne := hfk.get hne (by simp only [List.mem_cons, List.not_mem_nil, or_false]; omega)
  have hot := hfk.get hot (by simp only [List.mem_cons, List.not_mem_nil, or_false]; omega)
  have hra := hfk.get hra (by simp only [List.mem_cons, List.not_mem_nil, or_false]; omega)
  have hna := hfk.get hna (by simp only [List.mem_cons, List.not_mem_nil, or_false]; omega)
  have hnl := hfk.get hnl (by simp only [List.mem_cons, List.not_mem_nil, or_false]; omega)
  have hf_subject := hfk.get hf_subject (by decide)
  have hby_ := hfk.get hby_ (by decide)
  have hco := hfk.get hco (by decide)
  have hre := hfk.get hre (by decide)
  have hho := hfk.get hho (by decide)
  have hwk_k := hfk.get hwk_k (by decide)
  have hstk_k := hfk.get hstk_k (by decide)
  have hfr := hfr.tr hfk (by decide)
  have hq22 := hfk.1
  have hf_marks := hNf_marks
  have hmk212 := hNmk212
  change ab_W _ _ _ G8 109 [some (vR w_), some (vR q), some (vz hw), some (vz 0), some (vz p)] [] _
  have hub_ := ucn_b (M := M214) (w := w210) (df := p) (n := n) (by omega) (by omega)
  have hzt2_ : zT nm213 52026 ≤ 156078 := zT_le (c := 52026) (by omega) rfl
  refine ab_aload_n d_PW_run_109 rfl ?_
  refine ab_getf (fs := [vR f_ready, vR f_tape, vR f_reader, vR f_programs, vR f_subject, vR f_spans, vR f_threads, vR f_marks, vR f_oneMind, vR f_states, vR f_latest, vR f_matches, vR f_pieces, vR f_template, vR f_result, vR f_spare, vz cmp, vz ovs]) f_PW_55 d_PW_run_110 hw_.2.2 rfl ?_
  refine ab_iload d_PW_run_113 rfl ?_
  refine ab_callV (d' := d - 1) (as := [vz p]) (st := []) (r := _) (z_MK_find (o := o9) (q := q) (lq := lq) (ki := ki) (ne := ne) (ot := ot) (cnt := cnt) (fi := fi) (la := la) (ra := ra) (ru := ru) (gr := gr) (wi := wi) (sz := sz) (fl := fl) (ve := ve) (mi := mi) (na := na) (nl := nl) (K := K) (N := N) (O := O) (RR := RR) (nr := nr) (s := f_subject) (by_ := by_) (co := co) (re := re) (ho := ho) (n := n) (C := C) (Rs := Rs) (H := H) (mc := mc) (a := f_marks) (sp := f_spans) (wk := wk_k) (mk := mk212) (stk := stk_k) (w := w210) (df := p) (dp := dp_k) (fo := fo_k) (fy := fy211) (hw := hw) (stp := stm) (SP := SP) (WK := WK_k) (M := M214) (SK := SK_k) (nm := nm213) (ns := ns) (p := p) hf_marks hf_spans hwk_k hmk212 hstk_k hq hki hne hot hra hf_subject hco hre hho (by omega) hp hr (by omega) hsu (by omega) (by omega) (by omega) (by omega) (by omega) (by omega) hst_k (by omega) (by omega) jsp (by omega) (by omega) (by omega)) (fun oc G2 h => by rcases h with ⟨_, _, _, _, _, _, _, _, _, _, _, h, _⟩ | ⟨_, _, _, _, _, _, _, _, _, _, _, _, h, _⟩ <;> exact ⟨_, h⟩) (by omega) m_MK_find ml_PW_251 im_MK_find se_MK_find c_MK hf_marks.2.2 (Nat.le_of_ble_eq_true rfl) d_PW_run_115 rfl ?_
  intro v G23 hq
  rcases hq with ⟨o24, df225, dp226, fo227, st228, sk229, ns230, WK231, M232, SK233, SP234, hv, hfk, hNf_marks, hNf_spans, hNwk_k, hNmk212, hNsk229, hq35, hq36, hq37, hq38, hq39, hq40, hq41, hq42⟩ | ⟨o43, df244, dp245, fo246, st247, sk248, ns249, WK250, M251, SK252, SP253, r54, hv, hfk, hNf_marks, hNf_spans, hNwk_k, hNmk212, hNsk248, hq55, hq56, hq57, hq58, hq59, hq60, hq61, hq62, hq63, hq64, hq65, hq66⟩
  · cases hv
    have hw_ := hfk.get hw_ (by decide)
    have h17 := hfk.get h17 (by decide)
    have hq := hfk.get hq (by simp only [List.mem_cons, List.not_mem_nil, or_false]; omega)
    have hki := hfk.get hki (by simp only [List.mem_cons, List.not_mem_nil, or_false]; omega)
    have hne := hfk.get hne (by simp only [List.mem_cons, List.not_mem_nil, or_false]; omega)
    have hot := hfk.get hot (by simp only [List.mem_cons, List.not_mem_nil, or_false]; omega)
    have hra := hfk.get hra (by simp only [List.mem_cons, List.not_mem_nil, or_false]; omega)
    have hna := hfk.get hna (by simp only [List.mem_cons, List.not_mem_nil, or_false]; omega)
    have hnl := hfk.get hnl (by simp only [List.mem_cons, List.not_mem_nil, or_false]; omega)
    have hf_subject := hfk.get hf_subject (by decide)
    have hby_ := hfk.get hby_ (by decide)
    have hco := hfk.get hco (by decide)
    have hre := hfk.get hre (by decide)
    have hho := hfk.get hho (by decide)
    have hfr := hfr.tr hfk (by decide)
    have hq67 := hfk.1
    have hf_marks := hNf_marks
    have hf_spans := hNf_spans
    have hwk_k := hNwk_k
    have hmk212 := hNmk212
    have hsk229 := hNsk229
    change ab_W _ _ _ G23 118 [some (vR w_), some (vR q), some (vz hw), some (vz 0), some (vz p)] [vz (-1)] _
    have hub2_ := ucn_b (M := M232) (w := w210) (df := df225) (n := n) (by omega) (by omega)
    have pmkI_f_marks : mkI o24 G23 f_marks nm213 ns230 st228 := ⟨wk_k, mk212, sk229, w210, df225, dp226, fo227, fy211, hw, WK231, M232, SK233, vR f_spans, vR q, vR f_subject, hf_marks, hwk_k, hmk212, hsk229, (by omega), hq36, (by omega), (by omega)⟩
    have hmq_ : onq mi on := hmi
    have ppgB_q : pgB o24 G23 q lq nr cv cmp on mi sz := ⟨ki, ne, ot, cnt, fi, la, ra, ru, gr, wi, fl, ve, na, nl, K, N, O, RR, NA, NL, hq, hki, hne, hot, hra, hna, hnl, (by omega), hpu, hp, hr, hch, (by omega), (by omega), (by omega), (by omega), (by omega), hpo, hmq_, (by omega), (by omega), jnl, (by omega)⟩
    have psuI_f_subject : suI o24 G23 f_subject n m := ⟨by_, co, re, ho, f, C, Rs, H, mc, hf_subject, hby_, hco, hre, hho, (by omega), hsu⟩
    refine zz_iret rfl d_PW_run_118 ?_
    rw [hQ]; exact ⟨_, _, _, _, _, _, rfl, hfr, hf_spans, pmkI_f_marks, psuI_f_subject, ppgB_q, (by omega), (by omega), (by exact hq38), (by omega), (by omega)⟩
  · cases hv
    have hw_ := hfk.get hw_ (by decide)
    have h17 := hfk.get h17 (by decide)
    have hq := hfk.get hq (by simp only [List.mem_cons, List.not_mem_nil, or_false]; omega)
    have hki := hfk.get hki (by simp only [List.mem_cons, List.not_mem_nil, or_false]; omega)
    have hne := hfk.get hne (by simp only [List.mem_cons, List.not_mem_nil, or_false]; omega)
    have hot := hfk.get hot (by simp only [List.mem_cons, List.not_mem_nil, or_false]; omega)
    have hra := hfk.get hra (by simp only [List.mem_cons, List.not_mem_nil, or_false]; omega)
    have hna := hfk.get hna (by simp only [List.mem_cons, List.not_mem_nil, or_false]; omega)
    have hnl := hfk.get hnl (by simp only [List.mem_cons, List.not_mem_nil, or_false]; omega)
    have hf_subject := hfk.get hf_subject (by decide)
    have hby_ := hfk.get hby_ (by decide)
    have hco := hfk.get hco (by decide)
    have hre := hfk.get hre (by decide)
    have hho := hfk.get hho (by decide)
    have hfr := hfr.tr hfk (by decide)
    have hq68 := hfk.1
    have hf_marks := hNf_marks
    have hf_spans := hNf_spans
    have hwk_k := hNwk_k
    have hmk212 := hNmk212
    have hsk248 := hNsk248
    change ab_W _ _ _ G23 118 [some (vR w_), some (vR q), some (vz hw), some (vz 0), some (vz p)] [vz r54] _
    have hub2_ := ucn_b (M := M251) (w := w210) (df := df244) (n := n) (by omega) (by omega)
    have pmkI_f_marks : mkI o43 G23 f_marks nm213 ns249 st247 := ⟨wk_k, mk212, sk248, w210, df244, dp245, fo246, fy211, hw, WK250, M251, SK252, vR f_spans, vR q, vR f_subject, hf_marks, hwk_k, hmk212, hsk248, (by omega), hq56, (by omega), (by omega)⟩
    have hmq_ : onq mi on := hmi
    have ppgB_q : pgB o43 G23 q lq nr cv cmp on mi sz := ⟨ki, ne, ot, cnt, fi, la, ra, ru, gr, wi, fl, ve, na, nl, K, N, O, RR, NA, NL, hq, hki, hne, hot, hra, hna, hnl, (by omega), hpu, hp, hr, hch, (by omega), (by omega), (by omega), (by omega), (by omega), hpo, hmq_, (by omega), (by omega), jnl, (by omega)⟩
    have psuI_f_subject : suI o43 G23 f_subject n m := ⟨by_, co, re, ho, f, C, Rs, H, mc, hf_subject, hby_, hco, hre, hho, (by omega), hsu⟩
    refine zz_iret rfl d_PW_run_118 ?_
    rw [hQ]; exact ⟨_, _, _, _, _, _, rfl, hfr, hf_spans, pmkI_f_marks, psuI_f_subject, ppgB_q, (by omega), (by omega), (by exact hq58), (by omega), (by omega)⟩
