set_option maxRecDepth 100000 in
set_option maxHeartbeats 4000000 in
theorem z_PW_run {X : ab_X} {d : Nat} {o : Nat → Nat} {G : ab_G} {w_ : Nat} {f_ready : Nat} {f_tape : Nat} {f_reader : Nat} {f_programs : Nat} {f_subject : Nat} {f_spans : Nat} {f_threads : Nat} {f_marks : Nat} {f_oneMind : Nat} {f_states : Nat} {f_latest : Nat} {f_matches : Nat} {f_pieces : Nat} {f_template : Nat} {f_result : Nat} {f_spare : Nat} {cmp : Int} {ovs : Int} {sb : Int} {q : Nat} {lq : Nat} {nr : Nat} {cv : Int → Int} {on : Nat} {mi : Int} {nm : Nat} {ns : Nat} {nt : Nat} {n : Int} {m : Nat} {SP : Int → Int} {f : Int → Int} {hw : Int} {mch : Int} {p : Int} {stt : Int} {stm : Int} {sto : Int} {sts : Int} {sz : Int} (hw_ : cc o G w_ 18 (ab_ob 0 [vR f_ready, vR f_tape, vR f_reader, vR f_programs, vR f_subject, vR f_spans, vR f_threads, vR f_marks, vR f_oneMind, vR f_states, vR f_latest, vR f_matches, vR f_pieces, vR f_template, vR f_result, vR f_spare, vz cmp, vz ovs])) (hf_spans : cc o G f_spans 31 (za 20 SP)) (h17 : cc o G 17 17 (za 12 zFC)) (pthI_f_threads : thI o G f_threads stt) (pmkI_f_marks : mkI o G f_marks nm ns stm) (pomI_f_oneMind : omI o G f_oneMind on nt sto) (pstI_f_states : stI o G f_states cv cmp sts sb) (psuI_f_subject : suI o G f_subject n m f) (ppgB_q : pgB o G q lq nr cv cmp on mi sz) (n18 : ab_n0 = 18) (chw : 0 ≤ hw ∧ hw ≤ 2 ∧ 0 ≤ mch ∧ mch ≤ 4 ∧ 0 ≤ p ∧ p ≤ n) (jsp : rgs SP 20 (-1) 2000) (rc : 64 * G.length + 4600000 ≤ 64 * (ab_n0 + room_1.cells) + (64 * nm + 64 * stC ns + nt + onPQ on)) (rs : ab_slots G + 2360000 ≤ room_1.slots + (zT nm 52026 + stT ns + 2 * nt + onSQ on)) (csb9 : 0 ≤ sb ∧ sb ≤ 1000000000) (hd : 15 ≤ d) : ab_F X d y_PW_run (.code y_PW_run b_PW_run 5 (some (.int))) [vR w_, vR q, vz hw, vz mch, vz p] G (fun oc G2 => ∃ o2 : Nat → Nat, ∃ nm2 : Nat, ∃ ns2 : Nat, ∃ on2 : Nat, ∃ nt2 : Nat, ∃ mi2 : Int, ∃ SP2 : Int → Int, ∃ r : Int, ∃ s1_ : Int, ∃ s2_ : Int, ∃ s3_ : Int, ∃ s4_ : Int, ∃ sb2 : Int, oc = .returned (some (vz r)) ∧ fx o o2 [31, 32, 33, 35, 36, 37, 38, 39, 40, 44, 45, 46, 47, 50, 51, 52, 53, 54, 55, 56, 57, 60, 61, 62, 63, 64, 65, 66, 67, 68, lq] G G2 ∧ cc o2 G2 f_spans 31 (za 20 SP2) ∧ thI o2 G2 f_threads s1_ ∧ mkI o2 G2 f_marks nm2 ns2 s2_ ∧ omI o2 G2 f_oneMind on2 nt2 s3_ ∧ stI o2 G2 f_states cv cmp s4_ sb2 ∧ suI o2 G2 f_subject n m f ∧ pgB o2 G2 q lq nr cv cmp on2 mi2 sz ∧ (rnY cv lq f n hw p r SP2) ∧ (sb ≤ sb2 ∧ sb2 ≤ sb + 2003) ∧ (stt ≤ s1_ ∧ stm ≤ s2_ ∧ sto ≤ s3_ ∧ sts ≤ s4_ ∧ s1_ + s2_ + s3_ + s4_ ≤ stt + stm + sto + sts + 9800 * (n + 1) + 3232 * sz + 14544) ∧ (-1 ≤ r ∧ r ≤ n) ∧ (rgs SP2 20 (-1) 2000) ∧ (64 * G2.length + (64 * nm + 64 * stC ns + nt + onPQ on) ≤ 64 * G.length + (64 * nm2 + 64 * stC ns2 + nt2 + onPQ on2)) ∧ (ab_slots G2 + (zT nm 52026 + stT ns + 2 * nt + onSQ on) ≤ ab_slots G + (zT nm2 52026 + stT ns2 + 2 * nt2 + onSQ on2)) ∧ (onL on on2)) := by
  refine ab_F_of (by decide +kernel) (Nat.le_of_ble_eq_true rfl) ?_
  obtain ⟨Q, hQ⟩ : ∃ z : Outcome → ab_G → Prop, z = (fun oc G2 => ∃ o2 : Nat → Nat, ∃ nm2 : Nat, ∃ ns2 : Nat, ∃ on2 : Nat, ∃ nt2 : Nat, ∃ mi2 : Int, ∃ SP2 : Int → Int, ∃ r : Int, ∃ s1_ : Int, ∃ s2_ : Int, ∃ s3_ : Int, ∃ s4_ : Int, ∃ sb2 : Int, oc = .returned (some (vz r)) ∧ fx o o2 [31, 32, 33, 35, 36, 37, 38, 39, 40, 44, 45, 46, 47, 50, 51, 52, 53, 54, 55, 56, 57, 60, 61, 62, 63, 64, 65, 66, 67, 68, lq] G G2 ∧ cc o2 G2 f_spans 31 (za 20 SP2) ∧ thI o2 G2 f_threads s1_ ∧ mkI o2 G2 f_marks nm2 ns2 s2_ ∧ omI o2 G2 f_oneMind on2 nt2 s3_ ∧ stI o2 G2 f_states cv cmp s4_ sb2 ∧ suI o2 G2 f_subject n m f ∧ pgB o2 G2 q lq nr cv cmp on2 mi2 sz ∧ (rnY cv lq f n hw p r SP2) ∧ (sb ≤ sb2 ∧ sb2 ≤ sb + 2003) ∧ (stt ≤ s1_ ∧ stm ≤ s2_ ∧ sto ≤ s3_ ∧ sts ≤ s4_ ∧ s1_ + s2_ + s3_ + s4_ ≤ stt + stm + sto + sts + 9800 * (n + 1) + 3232 * sz + 14544) ∧ (-1 ≤ r ∧ r ≤ n) ∧ (rgs SP2 20 (-1) 2000) ∧ (64 * G2.length + (64 * nm + 64 * stC ns + nt + onPQ on) ≤ 64 * G.length + (64 * nm2 + 64 * stC ns2 + nt2 + onPQ on2)) ∧ (ab_slots G2 + (zT nm 52026 + stT ns + 2 * nt + onSQ on) ≤ ab_slots G + (zT nm2 52026 + stT ns2 + 2 * nt2 + onSQ on2)) ∧ (onL on on2)) := ⟨_, rfl⟩
  rw [← hQ]
  change ab_W X (ab_pl y_PW_run b_PW_run 5 (some (.int))) d G 0 [some (vR w_), some (vR q), some (vz hw), some (vz mch), some (vz p)] [] Q
  have hfr : fx o o [31, 32, 33, 35, 36, 37, 38, 39, 40, 44, 45, 46, 47, 50, 51, 52, 53, 54, 55, 56, 57, 60, 61, 62, 63, 64, 65, 66, 67, 68, lq] G G := fx.rf
  obtain ⟨ki, ne, ot, cnt, fi, la, ra, ru, gr, wi, fl, ve, na, nl, K, N, O, RR, NA, NL, hq, hki, hne, hot, hra, hna, hnl, cq, hpu, hp, hr, hch, cru, ck9, cfi, cgr, cfl, hpo, hmi, hvc, cve, jnl, hiv, hmn, jna, hla, hpv, cv1, hkk, hoc, csz⟩ := ppgB_q
  have hmn0_ := hmn
  obtain ⟨v9_, hmv_, hpm_⟩ := hmn0_
  obtain ⟨by_, co, re, ho, C, Rs, H, mc, hf_subject, hby_, hco, hre, hho, csu, hsu⟩ := psuI_f_subject
  have hq1 := stT_le ns
  have hq2 := stC_le ns
  have hq3 := onPQ_le on
  have hq4 := onSQ_le on
  have hnt_ := pomI_f_oneMind.nt
  have hnm_ := pmkI_f_marks.b
  have hzt_ : zT nm 52026 ≤ 156078 := zT_le (c := 52026) (by omega) rfl
  refine ab_iload_n d_PW_run_0 rfl ?_
  refine zz_iconst d_PW_run_1 ?_
  refine zz_icmp_ne (tgt := 25) d_PW_run_2 (by decide) (by omega) (by decide) (fun c5 => ?_) (fun c5 => ?_)
  · refine ab_iload_n d_PW_run_25 rfl ?_
    refine zz_iconst d_PW_run_26 ?_
    refine zz_icmp_ne (tgt := 65) d_PW_run_27 (by decide) (by omega) (by decide) (fun c6 => ?_) (fun c6 => ?_)
    · refine ab_iload_n d_PW_run_65 rfl ?_
      refine zz_iconst d_PW_run_66 ?_
      refine zz_icmp_ne (tgt := 90) d_PW_run_67 (by decide) (by omega) (by decide) (fun c7 => ?_) (fun c7 => ?_)
      · refine ab_aload_n d_PW_run_90 rfl ?_
        refine ab_getf (fs := [vR f_ready, vR f_tape, vR f_reader, vR f_programs, vR f_subject, vR f_spans, vR f_threads, vR f_marks, vR f_oneMind, vR f_states, vR f_latest, vR f_matches, vR f_pieces, vR f_template, vR f_result, vR f_spare, vz cmp, vz ovs]) f_PW_55 d_PW_run_91 hw_.2.2 rfl ?_
        refine ab_aload_n d_PW_run_94 rfl ?_
        refine ab_aload_n d_PW_run_95 rfl ?_
        refine ab_getf (fs := [vR f_ready, vR f_tape, vR f_reader, vR f_programs, vR f_subject, vR f_spans, vR f_threads, vR f_marks, vR f_oneMind, vR f_states, vR f_latest, vR f_matches, vR f_pieces, vR f_template, vR f_result, vR f_spare, vz cmp, vz ovs]) f_PW_38 d_PW_run_96 hw_.2.2 rfl ?_
        refine ab_iload_n d_PW_run_99 rfl ?_
        refine ab_iload d_PW_run_100 rfl ?_
        refine ab_aload_n d_PW_run_102 rfl ?_
        refine ab_getf (fs := [vR f_ready, vR f_tape, vR f_reader, vR f_programs, vR f_subject, vR f_spans, vR f_threads, vR f_marks, vR f_oneMind, vR f_states, vR f_latest, vR f_matches, vR f_pieces, vR f_template, vR f_result, vR f_spare, vz cmp, vz ovs]) f_PW_42 d_PW_run_103 hw_.2.2 rfl ?_
        obtain ⟨wk_k, mk_k, stk_k, w_k, df_k, dp_k, fo_k, fy_k, hw_k, WK_k, M_k, SK_k, sp0_k, q0_k, s0_k, hf_marks, hwk_k, hmk_k, hstk_k, cn_k, hst_k, cfo_k, cst0_k⟩ := pmkI_f_marks
        refine ab_callV (d' := d - 1) (as := [vR q, vR f_subject, vz hw, vz p, vR f_spans]) (st := []) (r := _) (z_MK_begin (o := o) (q := q) (lq := lq) (ki := ki) (ne := ne) (ot := ot) (cnt := cnt) (fi := fi) (la := la) (ra := ra) (ru := ru) (gr := gr) (wi := wi) (sz := sz) (fl := fl) (ve := ve) (mi := mi) (na := na) (nl := nl) (s := f_subject) (by_ := by_) (co := co) (re := re) (ho := ho) (n := n) (a := f_marks) (sp := f_spans) (wk := wk_k) (mk := mk_k) (stk := stk_k) (dp := dp_k) (fo := fo_k) (hw := hw) (stp := stm) (M := M_k) (nm := nm) (q0 := q0_k) (s0 := s0_k) (sp0 := sp0_k) (from_ := p) (hw0 := hw_k) (fy0 := fy_k) (w0 := w_k) (df0 := df_k) hf_marks hmk_k hq hf_subject (by omega) (by omega) (by omega) (by omega) (by omega) (by omega) (by omega)) (fun oc G2 h => by rcases h with ⟨_, _, _, _, _, _, h, _⟩ <;> exact ⟨_, h⟩) (by omega) m_MK_begin ml_PW_189 im_MK_begin se_MK_begin c_MK hf_marks.2.2 (Nat.le_of_ble_eq_true rfl) d_PW_run_106 rfl ?_
        intro v G8 hq
        rcases hq with ⟨o9, w210, fy211, mk212, nm213, M214, hv, hfk, hNf_marks, hNmk212, hq15, hq16, hq17, hq18, hq19, hq20, hq21⟩
        cases hv
        have hw_ := hfk.get hw_ (by decide)
        have hf_spans := hfk.get hf_spans (by decide)
        have h17 := hfk.get h17 (by decide)
        have hq := hfk.get hq (by simp only [List.mem_cons, List.not_mem_nil, or_false]; omega)
        have hki := hfk.get hki (by simp only [List.mem_cons, List.not_mem_nil, or_false]; omega)
        have hne := hfk.get hne (by simp only [List.mem_cons, List.not_mem_nil, or_false]; omega)
        have hot := hfk.get hot (by simp only [List.mem_cons, List.not_mem_nil, or_false]; omega)
        have hra := hfk.get hra (by simp only [List.mem_cons, List.not_mem_nil, or_false]; omega)
        have hna := hfk.get hna (by simp only [List.mem_cons, List.not_mem_nil, or_false]; omega)
        have hnl := hfk.get hnl (by simp only [List.mem_cons, List.not_mem_nil, or_false]; omega)
        have hf_subject := hfk.get hf_subject (by decide)
        have hby_ := hfk.get hby_ (by decide)
        have hco := hfk.get hco (by decide)
        have hre := hfk.get hre (by decide)
        have hho := hfk.get hho (by decide)
        have hwk_k := hfk.get hwk_k (by decide)
        have hstk_k := hfk.get hstk_k (by decide)
        have pthI_f_threads := thI.fr hfk pthI_f_threads (by decide) (by decide) (by decide) (by decide) (by decide) (by decide) (by decide) (by decide)
        have pomI_f_oneMind := omI.fr hfk pomI_f_oneMind (by decide) (by decide) (by decide) (by decide) (by decide) (by decide) (by decide) (by decide)
        have pstI_f_states := stI.fr hfk pstI_f_states (by decide) (by decide) (by decide) (by decide) (by decide) (by decide) (by decide) (by decide) (by decide)
        have hfr := hfr.tr hfk (by simp)
        have hq22 := hfk.1
        have hf_marks := hNf_marks
        have hmk212 := hNmk212
        change ab_W _ _ _ G8 109 [some (vR w_), some (vR q), some (vz hw), some (vz mch), some (vz p)] [] _
        have hub_ := ucn_b (M := M214) (w := w210) (df := p) (n := n) (by omega) (by omega)
        have hzt2_ : zT nm213 52026 ≤ 156078 := zT_le (c := 52026) (by omega) rfl
        refine ab_aload_n d_PW_run_109 rfl ?_
        refine ab_getf (fs := [vR f_ready, vR f_tape, vR f_reader, vR f_programs, vR f_subject, vR f_spans, vR f_threads, vR f_marks, vR f_oneMind, vR f_states, vR f_latest, vR f_matches, vR f_pieces, vR f_template, vR f_result, vR f_spare, vz cmp, vz ovs]) f_PW_55 d_PW_run_110 hw_.2.2 rfl ?_
        refine ab_iload d_PW_run_113 rfl ?_
        refine ab_callV (d' := d - 1) (as := [vz p]) (st := []) (r := _) (z_MK_find (o := o9) (q := q) (lq := lq) (ki := ki) (ne := ne) (ot := ot) (cnt := cnt) (fi := fi) (la := la) (ra := ra) (ru := ru) (gr := gr) (wi := wi) (sz := sz) (fl := fl) (ve := ve) (mi := mi) (na := na) (nl := nl) (K := K) (N := N) (O := O) (RR := RR) (nr := nr) (s := f_subject) (by_ := by_) (co := co) (re := re) (ho := ho) (n := n) (C := C) (Rs := Rs) (H := H) (mc := mc) (a := f_marks) (sp := f_spans) (wk := wk_k) (mk := mk212) (stk := stk_k) (w := w210) (df := p) (dp := dp_k) (fo := fo_k) (fy := fy211) (hw := hw) (stp := stm) (SP := SP) (WK := WK_k) (M := M214) (SK := SK_k) (nm := nm213) (ns := ns) (p := p) (v9 := v9_) hf_marks hf_spans hwk_k hmk212 hstk_k hq hki hne hot hra hf_subject hco hre hho (by omega) hp hr (by omega) hsu (by omega) (by omega) (by omega) (by omega) (by omega) (by omega) hst_k (by omega) (by omega) jsp (by omega) (by omega) hpm_ (ddC_0 (by omega)) (by omega)) (fun oc G2 h => by rcases h with ⟨_, _, _, _, _, _, _, _, _, _, _, h, _⟩ | ⟨_, _, _, _, _, _, _, _, _, _, _, _, h, _⟩ <;> exact ⟨_, h⟩) (by omega) m_MK_find ml_PW_251 im_MK_find se_MK_find c_MK hf_marks.2.2 (Nat.le_of_ble_eq_true rfl) d_PW_run_115 rfl ?_
        intro v G23 hq
        rcases hq with ⟨o24, df225, dp226, fo227, st228, sk229, ns230, WK231, M232, SK233, SP234, hv, hfk, hNf_marks, hNf_spans, hNwk_k, hNmk212, hNsk229, hq35, hq36, hq37, hq38, hq39, hq40, hq41, hq42, hq43⟩ | ⟨o44, df245, dp246, fo247, st248, sk249, ns250, WK251, M252, SK253, SP254, r55, hv, hfk, hNf_marks, hNf_spans, hNwk_k, hNmk212, hNsk249, hq56, hq57, hq58, hq59, hq60, hq61, hq62, hq63, hq64, hq65, hq66, hq67, hq68, hq69⟩
        · cases hv
          have hw_ := hfk.get hw_ (by decide)
          have h17 := hfk.get h17 (by decide)
          have hq := hfk.get hq (by simp only [List.mem_cons, List.not_mem_nil, or_false]; omega)
          have hki := hfk.get hki (by simp only [List.mem_cons, List.not_mem_nil, or_false]; omega)
          have hne := hfk.get hne (by simp only [List.mem_cons, List.not_mem_nil, or_false]; omega)
          have hot := hfk.get hot (by simp only [List.mem_cons, List.not_mem_nil, or_false]; omega)
          have hra := hfk.get hra (by simp only [List.mem_cons, List.not_mem_nil, or_false]; omega)
          have hna := hfk.get hna (by simp only [List.mem_cons, List.not_mem_nil, or_false]; omega)
          have hnl := hfk.get hnl (by simp only [List.mem_cons, List.not_mem_nil, or_false]; omega)
          have hf_subject := hfk.get hf_subject (by decide)
          have hby_ := hfk.get hby_ (by decide)
          have hco := hfk.get hco (by decide)
          have hre := hfk.get hre (by decide)
          have hho := hfk.get hho (by decide)
          have pthI_f_threads := thI.fr hfk pthI_f_threads (by decide) (by decide) (by decide) (by decide) (by decide) (by decide) (by decide) (by decide)
          have pomI_f_oneMind := omI.fr hfk pomI_f_oneMind (by decide) (by decide) (by decide) (by decide) (by decide) (by decide) (by decide) (by decide)
          have pstI_f_states := stI.fr hfk pstI_f_states (by decide) (by decide) (by decide) (by decide) (by decide) (by decide) (by decide) (by decide) (by decide)
          have hfr := hfr.tr hfk (by simp)
          have hq70 := hfk.1
          have hf_marks := hNf_marks
          have hf_spans := hNf_spans
          have hwk_k := hNwk_k
          have hmk212 := hNmk212
          have hsk229 := hNsk229
          change ab_W _ _ _ G23 118 [some (vR w_), some (vR q), some (vz hw), some (vz mch), some (vz p)] [vz (-1)] _
          have hub2_ := ucn_b (M := M232) (w := w210) (df := df225) (n := n) (by omega) (by omega)
          have pmkI_f_marks : mkI o24 G23 f_marks nm213 ns230 st228 := ⟨wk_k, mk212, sk229, w210, df225, dp226, fo227, fy211, hw, WK231, M232, SK233, vR f_spans, vR q, vR f_subject, hf_marks, hwk_k, hmk212, hsk229, (by omega), hq36, (by omega), (by omega)⟩
          have hmq_ : onq mi on := hmi
          have ppgB_q : pgB o24 G23 q lq nr cv cmp on mi sz := ⟨ki, ne, ot, cnt, fi, la, ra, ru, gr, wi, fl, ve, na, nl, K, N, O, RR, NA, NL, hq, hki, hne, hot, hra, hna, hnl, (by omega), hpu, hp, hr, hch, (by omega), (by omega), (by omega), (by omega), (by omega), hpo, hmq_, (by omega), (by omega), jnl, hiv, hmn, jna, hla, hpv, (by omega), hkk, hoc, (by omega)⟩
          have psuI_f_subject : suI o24 G23 f_subject n m f := ⟨by_, co, re, ho, C, Rs, H, mc, hf_subject, hby_, hco, hre, hho, (by omega), hsu⟩
          refine zz_iret rfl d_PW_run_118 ?_
          rw [hQ]; exact ⟨_, _, _, _, _, _, _, _, _, _, _, _, _, rfl, hfr, hf_spans, pthI_f_threads, pmkI_f_marks, pomI_f_oneMind, pstI_f_states, psuI_f_subject, ppgB_q, (by exact rnY_m hmv_ hpm_.wp hsu.1 hq19 (by omega) hiv (by omega) hq43 (by omega)), (by omega), (by omega), (by omega), (by exact hq38), (by omega), (by omega), (by first | exact Or.inl rfl | exact Or.inl rfl)⟩
        · cases hv
          have hw_ := hfk.get hw_ (by decide)
          have h17 := hfk.get h17 (by decide)
          have hq := hfk.get hq (by simp only [List.mem_cons, List.not_mem_nil, or_false]; omega)
          have hki := hfk.get hki (by simp only [List.mem_cons, List.not_mem_nil, or_false]; omega)
          have hne := hfk.get hne (by simp only [List.mem_cons, List.not_mem_nil, or_false]; omega)
          have hot := hfk.get hot (by simp only [List.mem_cons, List.not_mem_nil, or_false]; omega)
          have hra := hfk.get hra (by simp only [List.mem_cons, List.not_mem_nil, or_false]; omega)
          have hna := hfk.get hna (by simp only [List.mem_cons, List.not_mem_nil, or_false]; omega)
          have hnl := hfk.get hnl (by simp only [List.mem_cons, List.not_mem_nil, or_false]; omega)
          have hf_subject := hfk.get hf_subject (by decide)
          have hby_ := hfk.get hby_ (by decide)
          have hco := hfk.get hco (by decide)
          have hre := hfk.get hre (by decide)
          have hho := hfk.get hho (by decide)
          have pthI_f_threads := thI.fr hfk pthI_f_threads (by decide) (by decide) (by decide) (by decide) (by decide) (by decide) (by decide) (by decide)
          have pomI_f_oneMind := omI.fr hfk pomI_f_oneMind (by decide) (by decide) (by decide) (by decide) (by decide) (by decide) (by decide) (by decide)
          have pstI_f_states := stI.fr hfk pstI_f_states (by decide) (by decide) (by decide) (by decide) (by decide) (by decide) (by decide) (by decide) (by decide)
          have hfr := hfr.tr hfk (by simp)
          have hq71 := hfk.1
          have hf_marks := hNf_marks
          have hf_spans := hNf_spans
          have hwk_k := hNwk_k
          have hmk212 := hNmk212
          have hsk249 := hNsk249
          change ab_W _ _ _ G23 118 [some (vR w_), some (vR q), some (vz hw), some (vz mch), some (vz p)] [vz r55] _
          have hub2_ := ucn_b (M := M252) (w := w210) (df := df245) (n := n) (by omega) (by omega)
          have pmkI_f_marks : mkI o44 G23 f_marks nm213 ns250 st248 := ⟨wk_k, mk212, sk249, w210, df245, dp246, fo247, fy211, hw, WK251, M252, SK253, vR f_spans, vR q, vR f_subject, hf_marks, hwk_k, hmk212, hsk249, (by omega), hq57, (by omega), (by omega)⟩
          have hmq_ : onq mi on := hmi
          have ppgB_q : pgB o44 G23 q lq nr cv cmp on mi sz := ⟨ki, ne, ot, cnt, fi, la, ra, ru, gr, wi, fl, ve, na, nl, K, N, O, RR, NA, NL, hq, hki, hne, hot, hra, hna, hnl, (by omega), hpu, hp, hr, hch, (by omega), (by omega), (by omega), (by omega), (by omega), hpo, hmq_, (by omega), (by omega), jnl, hiv, hmn, jna, hla, hpv, (by omega), hkk, hoc, (by omega)⟩
          have psuI_f_subject : suI o44 G23 f_subject n m f := ⟨by_, co, re, ho, C, Rs, H, mc, hf_subject, hby_, hco, hre, hho, (by omega), hsu⟩
          refine zz_iret rfl d_PW_run_118 ?_
          rw [hQ]; exact ⟨_, _, _, _, _, _, _, _, _, _, _, _, _, rfl, hfr, hf_spans, pthI_f_threads, pmkI_f_marks, pomI_f_oneMind, pstI_f_states, psuI_f_subject, ppgB_q, (by exact rnY_m hmv_ hpm_.wp hsu.1 hq19 (by omega) hiv (by omega) hq68 (by omega)), (by omega), (by omega), (by omega), (by exact hq59), (by omega), (by omega), (by first | exact Or.inl rfl | exact Or.inl rfl)⟩
      · refine ab_aload_n d_PW_run_70 rfl ?_
        refine ab_getf (fs := [vR f_ready, vR f_tape, vR f_reader, vR f_programs, vR f_subject, vR f_spans, vR f_threads, vR f_marks, vR f_oneMind, vR f_states, vR f_latest, vR f_matches, vR f_pieces, vR f_template, vR f_result, vR f_spare, vz cmp, vz ovs]) f_PW_69 d_PW_run_71 hw_.2.2 rfl ?_
        refine ab_aload_n d_PW_run_74 rfl ?_
        refine ab_aload_n d_PW_run_75 rfl ?_
        refine ab_getf (fs := [vR f_ready, vR f_tape, vR f_reader, vR f_programs, vR f_subject, vR f_spans, vR f_threads, vR f_marks, vR f_oneMind, vR f_states, vR f_latest, vR f_matches, vR f_pieces, vR f_template, vR f_result, vR f_spare, vz cmp, vz ovs]) f_PW_38 d_PW_run_76 hw_.2.2 rfl ?_
        refine ab_iload_n d_PW_run_79 rfl ?_
        refine ab_iload d_PW_run_80 rfl ?_
        obtain ⟨cu_s, eg_s, po_s, bg_s, bd_s, sd_s, se__s, stk_s, mst_s, q0_s, vr_s, ro_s, cn_s, ct_s, sc_s, sta_s, arv_s, CU_s, EG_s, PO_s, BG_s, BD_s, SD_s, SE_s, SK_s, hf_states, hcu_s, heg_s, hpo_s, hbg_s, hbd_s, hsd_s, hse__s, hstk_s, jcu_s, ccn_s, cms_s, cvr_s, jbg_s, jpo_s, jbd_s, jeg_s, cro_s, cst0_s, jse_s, csb_s, jsq_s⟩ := pstI_f_states
        refine ab_callV (d' := d - 1) (as := [vR q, vR f_subject, vz hw, vz p]) (st := []) (r := _) (z_ST_tell (o := o) (a := f_states) (cu := cu_s) (eg := eg_s) (po := po_s) (bg := bg_s) (bd := bd_s) (sd := sd_s) (se_ := se__s) (stk := stk_s) (mst := mst_s) (q0 := q0_s) (vr := vr_s) (ro := ro_s) (cn := cn_s) (ct := ct_s) (sc := sc_s) (sta := sta_s) (arv := arv_s) (stp := sts) (CU := CU_s) (EG := EG_s) (PO := PO_s) (BG := BG_s) (BD := BD_s) (SD := SD_s) (SE := SE_s) (SK := SK_s) (q := q) (lq := lq) (ki := ki) (ne := ne) (ot := ot) (cnt := cnt) (fi := fi) (la := la) (ra := ra) (ru := ru) (gr := gr) (wi := wi) (sz := sz) (fl := fl) (ve := ve) (mi := mi) (na := na) (nl := nl) (K := K) (N := N) (O := O) (RR := RR) (nr := nr) (s := f_subject) (by_ := by_) (co := co) (re := re) (ho := ho) (n := n) (f := f) (C := C) (Rs := Rs) (m := m) (mc := mc) (KT := (veK cv ve)) (NT := (veN cv ve)) (OT := (veO cv ve)) (RT := (veR cv ve)) (p := p) (hw := hw) (vc := (cv vr_s)) (v9 := v9_) hf_states hcu_s heg_s hpo_s hbg_s hbd_s hsd_s hse__s hstk_s h17 hq hki hne hot hra hf_subject hby_ hco hre (by omega) hp hr (by omega) hch jcu_s (by omega) (by omega) (by omega) (fun h => by rw [h]; exact hvc) jbg_s jpo_s jeg_s jbd_s (by omega) (by omega) (by omega) hsu hsu.1 (by omega) (by omega) (by omega) (by omega) hpv.t hpu (jsq_s.is hpv cv1) (by omega) (by omega) jse_s hla hpm_ (by omega)) (fun oc G2 h => by rcases h with ⟨_, _, _, _, _, _, _, _, _, _, _, _, _, _, _, _, _, h, _⟩ <;> exact ⟨_, h⟩) (by omega) m_ST_tell ml_PW_224 im_ST_tell se_ST_tell c_ST hf_states.2.2 (Nat.le_of_ble_eq_true rfl) d_PW_run_82 rfl ?_
        intro v G72 hq
        rcases hq with ⟨v73, vr274, cn275, ro276, CU277, ct278, sc279, sta280, st281, ar282, EG283, PO284, BG285, BD286, SD287, SE288, SK289, hv, hfk, hlk, hsk, hNf_states, hNcu_s, hNeg_s, hNpo_s, hNbg_s, hNbd_s, hNsd_s, hNse__s, hNstk_s, hq90, hq91, hq92, hq93, hq94, hq95, hq96, hq97, hq98, hq99, hq100, hq101, hq102⟩
        cases hv
        have hw_ := hfk.get hw_ (by decide)
        have hf_spans := hfk.get hf_spans (by decide)
        have h17 := hfk.get h17 (by decide)
        have hq := hfk.get hq (by simp only [List.mem_cons, List.not_mem_nil, or_false]; omega)
        have hki := hfk.get hki (by simp only [List.mem_cons, List.not_mem_nil, or_false]; omega)
        have hne := hfk.get hne (by simp only [List.mem_cons, List.not_mem_nil, or_false]; omega)
        have hot := hfk.get hot (by simp only [List.mem_cons, List.not_mem_nil, or_false]; omega)
        have hra := hfk.get hra (by simp only [List.mem_cons, List.not_mem_nil, or_false]; omega)
        have hna := hfk.get hna (by simp only [List.mem_cons, List.not_mem_nil, or_false]; omega)
        have hnl := hfk.get hnl (by simp only [List.mem_cons, List.not_mem_nil, or_false]; omega)
        have hf_subject := hfk.get hf_subject (by decide)
        have hby_ := hfk.get hby_ (by decide)
        have hco := hfk.get hco (by decide)
        have hre := hfk.get hre (by decide)
        have hho := hfk.get hho (by decide)
        have pthI_f_threads := thI.fr hfk pthI_f_threads (by decide) (by decide) (by decide) (by decide) (by decide) (by decide) (by decide) (by decide)
        have pmkI_f_marks := mkI.fr hfk pmkI_f_marks (by decide) (by decide) (by decide) (by decide)
        have pomI_f_oneMind := omI.fr hfk pomI_f_oneMind (by decide) (by decide) (by decide) (by decide) (by decide) (by decide) (by decide) (by decide)
        have hfr := hfr.tr hfk (by simp)
        have hq103 := hlk
        have hq104 := hsk
        have hf_states := hNf_states
        have hcu_s := hNcu_s
        have heg_s := hNeg_s
        have hpo_s := hNpo_s
        have hbg_s := hNbg_s
        have hbd_s := hNbd_s
        have hsd_s := hNsd_s
        have hse__s := hNse__s
        have hstk_s := hNstk_s
        change ab_W _ _ _ G72 85 [some (vR w_), some (vR q), some (vz hw), some (vz mch), some (vz p)] [vz v73] _
        have pstI_f_states : stI o G72 f_states cv cmp st281 (sb + 2003) := ⟨cu_s, eg_s, po_s, bg_s, bd_s, sd_s, se__s, stk_s, mst_s, vR q, vr274, ro276, cn275, ct278, sc279, sta280, ar282, CU277, EG283, PO284, BG285, BD286, SD287, SE288, SK289, hf_states, hcu_s, heg_s, hpo_s, hbg_s, hbd_s, hsd_s, hse__s, hstk_s, hq97, (by omega), (by omega), (by omega), hq91, (by rw [show vr274 = ve by omega, hvc]; exact hq92), hq93, hq94, (by omega), (by omega), hq95, (by omega), (stQ_mk hq100 hpv (by omega) (by omega) (by omega))⟩
        refine zz_if_ne (tgt := 90) d_PW_run_85 (by decide) (by omega) (fun c105 => ?_) (fun c105 => ?_)
        · refine ab_aload_n d_PW_run_90 rfl ?_
          refine ab_getf (fs := [vR f_ready, vR f_tape, vR f_reader, vR f_programs, vR f_subject, vR f_spans, vR f_threads, vR f_marks, vR f_oneMind, vR f_states, vR f_latest, vR f_matches, vR f_pieces, vR f_template, vR f_result, vR f_spare, vz cmp, vz ovs]) f_PW_55 d_PW_run_91 hw_.2.2 rfl ?_
          refine ab_aload_n d_PW_run_94 rfl ?_
          refine ab_aload_n d_PW_run_95 rfl ?_
          refine ab_getf (fs := [vR f_ready, vR f_tape, vR f_reader, vR f_programs, vR f_subject, vR f_spans, vR f_threads, vR f_marks, vR f_oneMind, vR f_states, vR f_latest, vR f_matches, vR f_pieces, vR f_template, vR f_result, vR f_spare, vz cmp, vz ovs]) f_PW_38 d_PW_run_96 hw_.2.2 rfl ?_
          refine ab_iload_n d_PW_run_99 rfl ?_
          refine ab_iload d_PW_run_100 rfl ?_
          refine ab_aload_n d_PW_run_102 rfl ?_
          refine ab_getf (fs := [vR f_ready, vR f_tape, vR f_reader, vR f_programs, vR f_subject, vR f_spans, vR f_threads, vR f_marks, vR f_oneMind, vR f_states, vR f_latest, vR f_matches, vR f_pieces, vR f_template, vR f_result, vR f_spare, vz cmp, vz ovs]) f_PW_42 d_PW_run_103 hw_.2.2 rfl ?_
          obtain ⟨wk_k, mk_k, stk_k, w_k, df_k, dp_k, fo_k, fy_k, hw_k, WK_k, M_k, SK_k, sp0_k, q0_k, s0_k, hf_marks, hwk_k, hmk_k, hstk_k, cn_k, hst_k, cfo_k, cst0_k⟩ := pmkI_f_marks
          refine ab_callV (d' := d - 1) (as := [vR q, vR f_subject, vz hw, vz p, vR f_spans]) (st := []) (r := _) (z_MK_begin (o := o) (q := q) (lq := lq) (ki := ki) (ne := ne) (ot := ot) (cnt := cnt) (fi := fi) (la := la) (ra := ra) (ru := ru) (gr := gr) (wi := wi) (sz := sz) (fl := fl) (ve := ve) (mi := mi) (na := na) (nl := nl) (s := f_subject) (by_ := by_) (co := co) (re := re) (ho := ho) (n := n) (a := f_marks) (sp := f_spans) (wk := wk_k) (mk := mk_k) (stk := stk_k) (dp := dp_k) (fo := fo_k) (hw := hw) (stp := stm) (M := M_k) (nm := nm) (q0 := q0_k) (s0 := s0_k) (sp0 := sp0_k) (from_ := p) (hw0 := hw_k) (fy0 := fy_k) (w0 := w_k) (df0 := df_k) hf_marks hmk_k hq hf_subject (by omega) (by omega) (by omega) (by omega) (by omega) (by omega) (by omega)) (fun oc G2 h => by rcases h with ⟨_, _, _, _, _, _, h, _⟩ <;> exact ⟨_, h⟩) (by omega) m_MK_begin ml_PW_189 im_MK_begin se_MK_begin c_MK hf_marks.2.2 (Nat.le_of_ble_eq_true rfl) d_PW_run_106 rfl ?_
          intro v G106 hq
          rcases hq with ⟨o107, w2108, fy2109, mk2110, nm2111, M2112, hv, hfk, hNf_marks, hNmk2110, hq113, hq114, hq115, hq116, hq117, hq118, hq119⟩
          cases hv
          have hw_ := hfk.get hw_ (by decide)
          have hf_spans := hfk.get hf_spans (by decide)
          have h17 := hfk.get h17 (by decide)
          have hq := hfk.get hq (by simp only [List.mem_cons, List.not_mem_nil, or_false]; omega)
          have hki := hfk.get hki (by simp only [List.mem_cons, List.not_mem_nil, or_false]; omega)
          have hne := hfk.get hne (by simp only [List.mem_cons, List.not_mem_nil, or_false]; omega)
          have hot := hfk.get hot (by simp only [List.mem_cons, List.not_mem_nil, or_false]; omega)
          have hra := hfk.get hra (by simp only [List.mem_cons, List.not_mem_nil, or_false]; omega)
          have hna := hfk.get hna (by simp only [List.mem_cons, List.not_mem_nil, or_false]; omega)
          have hnl := hfk.get hnl (by simp only [List.mem_cons, List.not_mem_nil, or_false]; omega)
          have hf_subject := hfk.get hf_subject (by decide)
          have hby_ := hfk.get hby_ (by decide)
          have hco := hfk.get hco (by decide)
          have hre := hfk.get hre (by decide)
          have hho := hfk.get hho (by decide)
          have hwk_k := hfk.get hwk_k (by decide)
          have hstk_k := hfk.get hstk_k (by decide)
          have pthI_f_threads := thI.fr hfk pthI_f_threads (by decide) (by decide) (by decide) (by decide) (by decide) (by decide) (by decide) (by decide)
          have pomI_f_oneMind := omI.fr hfk pomI_f_oneMind (by decide) (by decide) (by decide) (by decide) (by decide) (by decide) (by decide) (by decide)
          have pstI_f_states := stI.fr hfk pstI_f_states (by decide) (by decide) (by decide) (by decide) (by decide) (by decide) (by decide) (by decide) (by decide)
          have hfr := hfr.tr hfk (by simp)
          have hq120 := hfk.1
          have hf_marks := hNf_marks
          have hmk2110 := hNmk2110
          change ab_W _ _ _ G106 109 [some (vR w_), some (vR q), some (vz hw), some (vz mch), some (vz p)] [] _
          have hub_ := ucn_b (M := M2112) (w := w2108) (df := p) (n := n) (by omega) (by omega)
          have hzt2_ : zT nm2111 52026 ≤ 156078 := zT_le (c := 52026) (by omega) rfl
          refine ab_aload_n d_PW_run_109 rfl ?_
          refine ab_getf (fs := [vR f_ready, vR f_tape, vR f_reader, vR f_programs, vR f_subject, vR f_spans, vR f_threads, vR f_marks, vR f_oneMind, vR f_states, vR f_latest, vR f_matches, vR f_pieces, vR f_template, vR f_result, vR f_spare, vz cmp, vz ovs]) f_PW_55 d_PW_run_110 hw_.2.2 rfl ?_
          refine ab_iload d_PW_run_113 rfl ?_
          refine ab_callV (d' := d - 1) (as := [vz p]) (st := []) (r := _) (z_MK_find (o := o107) (q := q) (lq := lq) (ki := ki) (ne := ne) (ot := ot) (cnt := cnt) (fi := fi) (la := la) (ra := ra) (ru := ru) (gr := gr) (wi := wi) (sz := sz) (fl := fl) (ve := ve) (mi := mi) (na := na) (nl := nl) (K := K) (N := N) (O := O) (RR := RR) (nr := nr) (s := f_subject) (by_ := by_) (co := co) (re := re) (ho := ho) (n := n) (C := C) (Rs := Rs) (H := H) (mc := mc) (a := f_marks) (sp := f_spans) (wk := wk_k) (mk := mk2110) (stk := stk_k) (w := w2108) (df := p) (dp := dp_k) (fo := fo_k) (fy := fy2109) (hw := hw) (stp := stm) (SP := SP) (WK := WK_k) (M := M2112) (SK := SK_k) (nm := nm2111) (ns := ns) (p := p) (v9 := v9_) hf_marks hf_spans hwk_k hmk2110 hstk_k hq hki hne hot hra hf_subject hco hre hho (by omega) hp hr (by omega) hsu (by omega) (by omega) (by omega) (by omega) (by omega) (by omega) hst_k (by omega) (by omega) jsp (by omega) (by omega) hpm_ (ddC_0 (by omega)) (by omega)) (fun oc G2 h => by rcases h with ⟨_, _, _, _, _, _, _, _, _, _, _, h, _⟩ | ⟨_, _, _, _, _, _, _, _, _, _, _, _, h, _⟩ <;> exact ⟨_, h⟩) (by omega) m_MK_find ml_PW_251 im_MK_find se_MK_find c_MK hf_marks.2.2 (Nat.le_of_ble_eq_true rfl) d_PW_run_115 rfl ?_
          intro v G121 hq
          rcases hq with ⟨o122, df2123, dp2124, fo2125, st2126, sk2127, ns2128, WK2129, M2130, SK2131, SP2132, hv, hfk, hNf_marks, hNf_spans, hNwk_k, hNmk2110, hNsk2127, hq133, hq134, hq135, hq136, hq137, hq138, hq139, hq140, hq141⟩ | ⟨o142, df2143, dp2144, fo2145, st2146, sk2147, ns2148, WK2149, M2150, SK2151, SP2152, r153, hv, hfk, hNf_marks, hNf_spans, hNwk_k, hNmk2110, hNsk2147, hq154, hq155, hq156, hq157, hq158, hq159, hq160, hq161, hq162, hq163, hq164, hq165, hq166, hq167⟩
          · cases hv
            have hw_ := hfk.get hw_ (by decide)
            have h17 := hfk.get h17 (by decide)
            have hq := hfk.get hq (by simp only [List.mem_cons, List.not_mem_nil, or_false]; omega)
            have hki := hfk.get hki (by simp only [List.mem_cons, List.not_mem_nil, or_false]; omega)
            have hne := hfk.get hne (by simp only [List.mem_cons, List.not_mem_nil, or_false]; omega)
            have hot := hfk.get hot (by simp only [List.mem_cons, List.not_mem_nil, or_false]; omega)
            have hra := hfk.get hra (by simp only [List.mem_cons, List.not_mem_nil, or_false]; omega)
            have hna := hfk.get hna (by simp only [List.mem_cons, List.not_mem_nil, or_false]; omega)
            have hnl := hfk.get hnl (by simp only [List.mem_cons, List.not_mem_nil, or_false]; omega)
            have hf_subject := hfk.get hf_subject (by decide)
            have hby_ := hfk.get hby_ (by decide)
            have hco := hfk.get hco (by decide)
            have hre := hfk.get hre (by decide)
            have hho := hfk.get hho (by decide)
            have pthI_f_threads := thI.fr hfk pthI_f_threads (by decide) (by decide) (by decide) (by decide) (by decide) (by decide) (by decide) (by decide)
            have pomI_f_oneMind := omI.fr hfk pomI_f_oneMind (by decide) (by decide) (by decide) (by decide) (by decide) (by decide) (by decide) (by decide)
            have pstI_f_states := stI.fr hfk pstI_f_states (by decide) (by decide) (by decide) (by decide) (by decide) (by decide) (by decide) (by decide) (by decide)
            have hfr := hfr.tr hfk (by simp)
            have hq168 := hfk.1
            have hf_marks := hNf_marks
            have hf_spans := hNf_spans
            have hwk_k := hNwk_k
            have hmk2110 := hNmk2110
            have hsk2127 := hNsk2127
            change ab_W _ _ _ G121 118 [some (vR w_), some (vR q), some (vz hw), some (vz mch), some (vz p)] [vz (-1)] _
            have hub2_ := ucn_b (M := M2130) (w := w2108) (df := df2123) (n := n) (by omega) (by omega)
            have pmkI_f_marks : mkI o122 G121 f_marks nm2111 ns2128 st2126 := ⟨wk_k, mk2110, sk2127, w2108, df2123, dp2124, fo2125, fy2109, hw, WK2129, M2130, SK2131, vR f_spans, vR q, vR f_subject, hf_marks, hwk_k, hmk2110, hsk2127, (by omega), hq134, (by omega), (by omega)⟩
            have hmq_ : onq mi on := hmi
            have ppgB_q : pgB o122 G121 q lq nr cv cmp on mi sz := ⟨ki, ne, ot, cnt, fi, la, ra, ru, gr, wi, fl, ve, na, nl, K, N, O, RR, NA, NL, hq, hki, hne, hot, hra, hna, hnl, (by omega), hpu, hp, hr, hch, (by omega), (by omega), (by omega), (by omega), (by omega), hpo, hmq_, (by omega), (by omega), jnl, hiv, hmn, jna, hla, hpv, (by omega), hkk, hoc, (by omega)⟩
            have psuI_f_subject : suI o122 G121 f_subject n m f := ⟨by_, co, re, ho, C, Rs, H, mc, hf_subject, hby_, hco, hre, hho, (by omega), hsu⟩
            refine zz_iret rfl d_PW_run_118 ?_
            rw [hQ]; exact ⟨_, _, _, _, _, _, _, _, _, _, _, _, _, rfl, hfr, hf_spans, pthI_f_threads, pmkI_f_marks, pomI_f_oneMind, pstI_f_states, psuI_f_subject, ppgB_q, (by exact rnY_m hmv_ hpm_.wp hsu.1 hq117 (by omega) hiv (by omega) hq141 (by omega)), (by omega), (by omega), (by omega), (by exact hq136), (by omega), (by omega), (by first | exact Or.inl rfl | exact Or.inl rfl)⟩
          · cases hv
            have hw_ := hfk.get hw_ (by decide)
            have h17 := hfk.get h17 (by decide)
            have hq := hfk.get hq (by simp only [List.mem_cons, List.not_mem_nil, or_false]; omega)
            have hki := hfk.get hki (by simp only [List.mem_cons, List.not_mem_nil, or_false]; omega)
            have hne := hfk.get hne (by simp only [List.mem_cons, List.not_mem_nil, or_false]; omega)
            have hot := hfk.get hot (by simp only [List.mem_cons, List.not_mem_nil, or_false]; omega)
            have hra := hfk.get hra (by simp only [List.mem_cons, List.not_mem_nil, or_false]; omega)
            have hna := hfk.get hna (by simp only [List.mem_cons, List.not_mem_nil, or_false]; omega)
            have hnl := hfk.get hnl (by simp only [List.mem_cons, List.not_mem_nil, or_false]; omega)
            have hf_subject := hfk.get hf_subject (by decide)
            have hby_ := hfk.get hby_ (by decide)
            have hco := hfk.get hco (by decide)
            have hre := hfk.get hre (by decide)
            have hho := hfk.get hho (by decide)
            have pthI_f_threads := thI.fr hfk pthI_f_threads (by decide) (by decide) (by decide) (by decide) (by decide) (by decide) (by decide) (by decide)
            have pomI_f_oneMind := omI.fr hfk pomI_f_oneMind (by decide) (by decide) (by decide) (by decide) (by decide) (by decide) (by decide) (by decide)
            have pstI_f_states := stI.fr hfk pstI_f_states (by decide) (by decide) (by decide) (by decide) (by decide) (by decide) (by decide) (by decide) (by decide)
            have hfr := hfr.tr hfk (by simp)
            have hq169 := hfk.1
            have hf_marks := hNf_marks
            have hf_spans := hNf_spans
            have hwk_k := hNwk_k
            have hmk2110 := hNmk2110
            have hsk2147 := hNsk2147
            change ab_W _ _ _ G121 118 [some (vR w_), some (vR q), some (vz hw), some (vz mch), some (vz p)] [vz r153] _
            have hub2_ := ucn_b (M := M2150) (w := w2108) (df := df2143) (n := n) (by omega) (by omega)
            have pmkI_f_marks : mkI o142 G121 f_marks nm2111 ns2148 st2146 := ⟨wk_k, mk2110, sk2147, w2108, df2143, dp2144, fo2145, fy2109, hw, WK2149, M2150, SK2151, vR f_spans, vR q, vR f_subject, hf_marks, hwk_k, hmk2110, hsk2147, (by omega), hq155, (by omega), (by omega)⟩
            have hmq_ : onq mi on := hmi
            have ppgB_q : pgB o142 G121 q lq nr cv cmp on mi sz := ⟨ki, ne, ot, cnt, fi, la, ra, ru, gr, wi, fl, ve, na, nl, K, N, O, RR, NA, NL, hq, hki, hne, hot, hra, hna, hnl, (by omega), hpu, hp, hr, hch, (by omega), (by omega), (by omega), (by omega), (by omega), hpo, hmq_, (by omega), (by omega), jnl, hiv, hmn, jna, hla, hpv, (by omega), hkk, hoc, (by omega)⟩
            have psuI_f_subject : suI o142 G121 f_subject n m f := ⟨by_, co, re, ho, C, Rs, H, mc, hf_subject, hby_, hco, hre, hho, (by omega), hsu⟩
            refine zz_iret rfl d_PW_run_118 ?_
            rw [hQ]; exact ⟨_, _, _, _, _, _, _, _, _, _, _, _, _, rfl, hfr, hf_spans, pthI_f_threads, pmkI_f_marks, pomI_f_oneMind, pstI_f_states, psuI_f_subject, ppgB_q, (by exact rnY_m hmv_ hpm_.wp hsu.1 hq117 (by omega) hiv (by omega) hq166 (by omega)), (by omega), (by omega), (by omega), (by exact hq157), (by omega), (by omega), (by first | exact Or.inl rfl | exact Or.inl rfl)⟩
        · refine zz_iconst d_PW_run_88 ?_
          have hmq_ : onq mi on := hmi
          have ppgB_q : pgB o G72 q lq nr cv cmp on mi sz := ⟨ki, ne, ot, cnt, fi, la, ra, ru, gr, wi, fl, ve, na, nl, K, N, O, RR, NA, NL, hq, hki, hne, hot, hra, hna, hnl, (by omega), hpu, hp, hr, hch, (by omega), (by omega), (by omega), (by omega), (by omega), hpo, hmq_, (by omega), (by omega), jnl, hiv, hmn, jna, hla, hpv, (by omega), hkk, hoc, (by omega)⟩
          have psuI_f_subject : suI o G72 f_subject n m f := ⟨by_, co, re, ho, C, Rs, H, mc, hf_subject, hby_, hco, hre, hho, (by omega), hsu⟩
          refine zz_iret rfl d_PW_run_89 ?_
          rw [hQ]; exact ⟨_, _, _, _, _, _, _, _, _, _, _, _, _, rfl, hfr, hf_spans, pthI_f_threads, pmkI_f_marks, pomI_f_oneMind, pstI_f_states, psuI_f_subject, ppgB_q, (by exact rnY_s hmv_ hpm_.wp hsu.1 hq101 (by omega) (by omega)), (by omega), (by omega), (by omega), (by exact jsp), (by omega), (by omega), (by first | exact Or.inl rfl | exact Or.inl rfl)⟩
    · refine ab_iload_n d_PW_run_30 rfl ?_
      refine zz_if_eq (tgt := 65) d_PW_run_31 (by decide) (by omega) (fun c170 => ?_) (fun c170 => ?_)
      · refine ab_iload_n d_PW_run_65 rfl ?_
        refine zz_iconst d_PW_run_66 ?_
        refine zz_icmp_ne (tgt := 90) d_PW_run_67 (by decide) (by omega) (by decide) (fun c171 => ?_) (fun c171 => absurd c171 (by omega))
        refine ab_aload_n d_PW_run_90 rfl ?_
        refine ab_getf (fs := [vR f_ready, vR f_tape, vR f_reader, vR f_programs, vR f_subject, vR f_spans, vR f_threads, vR f_marks, vR f_oneMind, vR f_states, vR f_latest, vR f_matches, vR f_pieces, vR f_template, vR f_result, vR f_spare, vz cmp, vz ovs]) f_PW_55 d_PW_run_91 hw_.2.2 rfl ?_
        refine ab_aload_n d_PW_run_94 rfl ?_
        refine ab_aload_n d_PW_run_95 rfl ?_
        refine ab_getf (fs := [vR f_ready, vR f_tape, vR f_reader, vR f_programs, vR f_subject, vR f_spans, vR f_threads, vR f_marks, vR f_oneMind, vR f_states, vR f_latest, vR f_matches, vR f_pieces, vR f_template, vR f_result, vR f_spare, vz cmp, vz ovs]) f_PW_38 d_PW_run_96 hw_.2.2 rfl ?_
        refine ab_iload_n d_PW_run_99 rfl ?_
        refine ab_iload d_PW_run_100 rfl ?_
        refine ab_aload_n d_PW_run_102 rfl ?_
        refine ab_getf (fs := [vR f_ready, vR f_tape, vR f_reader, vR f_programs, vR f_subject, vR f_spans, vR f_threads, vR f_marks, vR f_oneMind, vR f_states, vR f_latest, vR f_matches, vR f_pieces, vR f_template, vR f_result, vR f_spare, vz cmp, vz ovs]) f_PW_42 d_PW_run_103 hw_.2.2 rfl ?_
        obtain ⟨wk_k, mk_k, stk_k, w_k, df_k, dp_k, fo_k, fy_k, hw_k, WK_k, M_k, SK_k, sp0_k, q0_k, s0_k, hf_marks, hwk_k, hmk_k, hstk_k, cn_k, hst_k, cfo_k, cst0_k⟩ := pmkI_f_marks
        refine ab_callV (d' := d - 1) (as := [vR q, vR f_subject, vz hw, vz p, vR f_spans]) (st := []) (r := _) (z_MK_begin (o := o) (q := q) (lq := lq) (ki := ki) (ne := ne) (ot := ot) (cnt := cnt) (fi := fi) (la := la) (ra := ra) (ru := ru) (gr := gr) (wi := wi) (sz := sz) (fl := fl) (ve := ve) (mi := mi) (na := na) (nl := nl) (s := f_subject) (by_ := by_) (co := co) (re := re) (ho := ho) (n := n) (a := f_marks) (sp := f_spans) (wk := wk_k) (mk := mk_k) (stk := stk_k) (dp := dp_k) (fo := fo_k) (hw := hw) (stp := stm) (M := M_k) (nm := nm) (q0 := q0_k) (s0 := s0_k) (sp0 := sp0_k) (from_ := p) (hw0 := hw_k) (fy0 := fy_k) (w0 := w_k) (df0 := df_k) hf_marks hmk_k hq hf_subject (by omega) (by omega) (by omega) (by omega) (by omega) (by omega) (by omega)) (fun oc G2 h => by rcases h with ⟨_, _, _, _, _, _, h, _⟩ <;> exact ⟨_, h⟩) (by omega) m_MK_begin ml_PW_189 im_MK_begin se_MK_begin c_MK hf_marks.2.2 (Nat.le_of_ble_eq_true rfl) d_PW_run_106 rfl ?_
        intro v G172 hq
        rcases hq with ⟨o173, w2174, fy2175, mk2176, nm2177, M2178, hv, hfk, hNf_marks, hNmk2176, hq179, hq180, hq181, hq182, hq183, hq184, hq185⟩
        cases hv
        have hw_ := hfk.get hw_ (by decide)
        have hf_spans := hfk.get hf_spans (by decide)
        have h17 := hfk.get h17 (by decide)
        have hq := hfk.get hq (by simp only [List.mem_cons, List.not_mem_nil, or_false]; omega)
        have hki := hfk.get hki (by simp only [List.mem_cons, List.not_mem_nil, or_false]; omega)
        have hne := hfk.get hne (by simp only [List.mem_cons, List.not_mem_nil, or_false]; omega)
        have hot := hfk.get hot (by simp only [List.mem_cons, List.not_mem_nil, or_false]; omega)
        have hra := hfk.get hra (by simp only [List.mem_cons, List.not_mem_nil, or_false]; omega)
        have hna := hfk.get hna (by simp only [List.mem_cons, List.not_mem_nil, or_false]; omega)
        have hnl := hfk.get hnl (by simp only [List.mem_cons, List.not_mem_nil, or_false]; omega)
        have hf_subject := hfk.get hf_subject (by decide)
        have hby_ := hfk.get hby_ (by decide)
        have hco := hfk.get hco (by decide)
        have hre := hfk.get hre (by decide)
        have hho := hfk.get hho (by decide)
        have hwk_k := hfk.get hwk_k (by decide)
        have hstk_k := hfk.get hstk_k (by decide)
        have pthI_f_threads := thI.fr hfk pthI_f_threads (by decide) (by decide) (by decide) (by decide) (by decide) (by decide) (by decide) (by decide)
        have pomI_f_oneMind := omI.fr hfk pomI_f_oneMind (by decide) (by decide) (by decide) (by decide) (by decide) (by decide) (by decide) (by decide)
        have pstI_f_states := stI.fr hfk pstI_f_states (by decide) (by decide) (by decide) (by decide) (by decide) (by decide) (by decide) (by decide) (by decide)
        have hfr := hfr.tr hfk (by simp)
        have hq186 := hfk.1
        have hf_marks := hNf_marks
        have hmk2176 := hNmk2176
        change ab_W _ _ _ G172 109 [some (vR w_), some (vR q), some (vz hw), some (vz mch), some (vz p)] [] _
        have hub_ := ucn_b (M := M2178) (w := w2174) (df := p) (n := n) (by omega) (by omega)
        have hzt2_ : zT nm2177 52026 ≤ 156078 := zT_le (c := 52026) (by omega) rfl
        refine ab_aload_n d_PW_run_109 rfl ?_
        refine ab_getf (fs := [vR f_ready, vR f_tape, vR f_reader, vR f_programs, vR f_subject, vR f_spans, vR f_threads, vR f_marks, vR f_oneMind, vR f_states, vR f_latest, vR f_matches, vR f_pieces, vR f_template, vR f_result, vR f_spare, vz cmp, vz ovs]) f_PW_55 d_PW_run_110 hw_.2.2 rfl ?_
        refine ab_iload d_PW_run_113 rfl ?_
        refine ab_callV (d' := d - 1) (as := [vz p]) (st := []) (r := _) (z_MK_find (o := o173) (q := q) (lq := lq) (ki := ki) (ne := ne) (ot := ot) (cnt := cnt) (fi := fi) (la := la) (ra := ra) (ru := ru) (gr := gr) (wi := wi) (sz := sz) (fl := fl) (ve := ve) (mi := mi) (na := na) (nl := nl) (K := K) (N := N) (O := O) (RR := RR) (nr := nr) (s := f_subject) (by_ := by_) (co := co) (re := re) (ho := ho) (n := n) (C := C) (Rs := Rs) (H := H) (mc := mc) (a := f_marks) (sp := f_spans) (wk := wk_k) (mk := mk2176) (stk := stk_k) (w := w2174) (df := p) (dp := dp_k) (fo := fo_k) (fy := fy2175) (hw := hw) (stp := stm) (SP := SP) (WK := WK_k) (M := M2178) (SK := SK_k) (nm := nm2177) (ns := ns) (p := p) (v9 := v9_) hf_marks hf_spans hwk_k hmk2176 hstk_k hq hki hne hot hra hf_subject hco hre hho (by omega) hp hr (by omega) hsu (by omega) (by omega) (by omega) (by omega) (by omega) (by omega) hst_k (by omega) (by omega) jsp (by omega) (by omega) hpm_ (ddC_0 (by omega)) (by omega)) (fun oc G2 h => by rcases h with ⟨_, _, _, _, _, _, _, _, _, _, _, h, _⟩ | ⟨_, _, _, _, _, _, _, _, _, _, _, _, h, _⟩ <;> exact ⟨_, h⟩) (by omega) m_MK_find ml_PW_251 im_MK_find se_MK_find c_MK hf_marks.2.2 (Nat.le_of_ble_eq_true rfl) d_PW_run_115 rfl ?_
        intro v G187 hq
        rcases hq with ⟨o188, df2189, dp2190, fo2191, st2192, sk2193, ns2194, WK2195, M2196, SK2197, SP2198, hv, hfk, hNf_marks, hNf_spans, hNwk_k, hNmk2176, hNsk2193, hq199, hq200, hq201, hq202, hq203, hq204, hq205, hq206, hq207⟩ | ⟨o208, df2209, dp2210, fo2211, st2212, sk2213, ns2214, WK2215, M2216, SK2217, SP2218, r219, hv, hfk, hNf_marks, hNf_spans, hNwk_k, hNmk2176, hNsk2213, hq220, hq221, hq222, hq223, hq224, hq225, hq226, hq227, hq228, hq229, hq230, hq231, hq232, hq233⟩
        · cases hv
          have hw_ := hfk.get hw_ (by decide)
          have h17 := hfk.get h17 (by decide)
          have hq := hfk.get hq (by simp only [List.mem_cons, List.not_mem_nil, or_false]; omega)
          have hki := hfk.get hki (by simp only [List.mem_cons, List.not_mem_nil, or_false]; omega)
          have hne := hfk.get hne (by simp only [List.mem_cons, List.not_mem_nil, or_false]; omega)
          have hot := hfk.get hot (by simp only [List.mem_cons, List.not_mem_nil, or_false]; omega)
          have hra := hfk.get hra (by simp only [List.mem_cons, List.not_mem_nil, or_false]; omega)
          have hna := hfk.get hna (by simp only [List.mem_cons, List.not_mem_nil, or_false]; omega)
          have hnl := hfk.get hnl (by simp only [List.mem_cons, List.not_mem_nil, or_false]; omega)
          have hf_subject := hfk.get hf_subject (by decide)
          have hby_ := hfk.get hby_ (by decide)
          have hco := hfk.get hco (by decide)
          have hre := hfk.get hre (by decide)
          have hho := hfk.get hho (by decide)
          have pthI_f_threads := thI.fr hfk pthI_f_threads (by decide) (by decide) (by decide) (by decide) (by decide) (by decide) (by decide) (by decide)
          have pomI_f_oneMind := omI.fr hfk pomI_f_oneMind (by decide) (by decide) (by decide) (by decide) (by decide) (by decide) (by decide) (by decide)
          have pstI_f_states := stI.fr hfk pstI_f_states (by decide) (by decide) (by decide) (by decide) (by decide) (by decide) (by decide) (by decide) (by decide)
          have hfr := hfr.tr hfk (by simp)
          have hq234 := hfk.1
          have hf_marks := hNf_marks
          have hf_spans := hNf_spans
          have hwk_k := hNwk_k
          have hmk2176 := hNmk2176
          have hsk2193 := hNsk2193
          change ab_W _ _ _ G187 118 [some (vR w_), some (vR q), some (vz hw), some (vz mch), some (vz p)] [vz (-1)] _
          have hub2_ := ucn_b (M := M2196) (w := w2174) (df := df2189) (n := n) (by omega) (by omega)
          have pmkI_f_marks : mkI o188 G187 f_marks nm2177 ns2194 st2192 := ⟨wk_k, mk2176, sk2193, w2174, df2189, dp2190, fo2191, fy2175, hw, WK2195, M2196, SK2197, vR f_spans, vR q, vR f_subject, hf_marks, hwk_k, hmk2176, hsk2193, (by omega), hq200, (by omega), (by omega)⟩
          have hmq_ : onq mi on := hmi
          have ppgB_q : pgB o188 G187 q lq nr cv cmp on mi sz := ⟨ki, ne, ot, cnt, fi, la, ra, ru, gr, wi, fl, ve, na, nl, K, N, O, RR, NA, NL, hq, hki, hne, hot, hra, hna, hnl, (by omega), hpu, hp, hr, hch, (by omega), (by omega), (by omega), (by omega), (by omega), hpo, hmq_, (by omega), (by omega), jnl, hiv, hmn, jna, hla, hpv, (by omega), hkk, hoc, (by omega)⟩
          have psuI_f_subject : suI o188 G187 f_subject n m f := ⟨by_, co, re, ho, C, Rs, H, mc, hf_subject, hby_, hco, hre, hho, (by omega), hsu⟩
          refine zz_iret rfl d_PW_run_118 ?_
          rw [hQ]; exact ⟨_, _, _, _, _, _, _, _, _, _, _, _, _, rfl, hfr, hf_spans, pthI_f_threads, pmkI_f_marks, pomI_f_oneMind, pstI_f_states, psuI_f_subject, ppgB_q, (by exact rnY_m hmv_ hpm_.wp hsu.1 hq183 (by omega) hiv (by omega) hq207 (by omega)), (by omega), (by omega), (by omega), (by exact hq202), (by omega), (by omega), (by first | exact Or.inl rfl | exact Or.inl rfl)⟩
        · cases hv
          have hw_ := hfk.get hw_ (by decide)
          have h17 := hfk.get h17 (by decide)
          have hq := hfk.get hq (by simp only [List.mem_cons, List.not_mem_nil, or_false]; omega)
          have hki := hfk.get hki (by simp only [List.mem_cons, List.not_mem_nil, or_false]; omega)
          have hne := hfk.get hne (by simp only [List.mem_cons, List.not_mem_nil, or_false]; omega)
          have hot := hfk.get hot (by simp only [List.mem_cons, List.not_mem_nil, or_false]; omega)
          have hra := hfk.get hra (by simp only [List.mem_cons, List.not_mem_nil, or_false]; omega)
          have hna := hfk.get hna (by simp only [List.mem_cons, List.not_mem_nil, or_false]; omega)
          have hnl := hfk.get hnl (by simp only [List.mem_cons, List.not_mem_nil, or_false]; omega)
          have hf_subject := hfk.get hf_subject (by decide)
          have hby_ := hfk.get hby_ (by decide)
          have hco := hfk.get hco (by decide)
          have hre := hfk.get hre (by decide)
          have hho := hfk.get hho (by decide)
          have pthI_f_threads := thI.fr hfk pthI_f_threads (by decide) (by decide) (by decide) (by decide) (by decide) (by decide) (by decide) (by decide)
          have pomI_f_oneMind := omI.fr hfk pomI_f_oneMind (by decide) (by decide) (by decide) (by decide) (by decide) (by decide) (by decide) (by decide)
          have pstI_f_states := stI.fr hfk pstI_f_states (by decide) (by decide) (by decide) (by decide) (by decide) (by decide) (by decide) (by decide) (by decide)
          have hfr := hfr.tr hfk (by simp)
          have hq235 := hfk.1
          have hf_marks := hNf_marks
          have hf_spans := hNf_spans
          have hwk_k := hNwk_k
          have hmk2176 := hNmk2176
          have hsk2213 := hNsk2213
          change ab_W _ _ _ G187 118 [some (vR w_), some (vR q), some (vz hw), some (vz mch), some (vz p)] [vz r219] _
          have hub2_ := ucn_b (M := M2216) (w := w2174) (df := df2209) (n := n) (by omega) (by omega)
          have pmkI_f_marks : mkI o208 G187 f_marks nm2177 ns2214 st2212 := ⟨wk_k, mk2176, sk2213, w2174, df2209, dp2210, fo2211, fy2175, hw, WK2215, M2216, SK2217, vR f_spans, vR q, vR f_subject, hf_marks, hwk_k, hmk2176, hsk2213, (by omega), hq221, (by omega), (by omega)⟩
          have hmq_ : onq mi on := hmi
          have ppgB_q : pgB o208 G187 q lq nr cv cmp on mi sz := ⟨ki, ne, ot, cnt, fi, la, ra, ru, gr, wi, fl, ve, na, nl, K, N, O, RR, NA, NL, hq, hki, hne, hot, hra, hna, hnl, (by omega), hpu, hp, hr, hch, (by omega), (by omega), (by omega), (by omega), (by omega), hpo, hmq_, (by omega), (by omega), jnl, hiv, hmn, jna, hla, hpv, (by omega), hkk, hoc, (by omega)⟩
          have psuI_f_subject : suI o208 G187 f_subject n m f := ⟨by_, co, re, ho, C, Rs, H, mc, hf_subject, hby_, hco, hre, hho, (by omega), hsu⟩
          refine zz_iret rfl d_PW_run_118 ?_
          rw [hQ]; exact ⟨_, _, _, _, _, _, _, _, _, _, _, _, _, rfl, hfr, hf_spans, pthI_f_threads, pmkI_f_marks, pomI_f_oneMind, pstI_f_states, psuI_f_subject, ppgB_q, (by exact rnY_m hmv_ hpm_.wp hsu.1 hq183 (by omega) hiv (by omega) hq232 (by omega)), (by omega), (by omega), (by omega), (by exact hq223), (by omega), (by omega), (by first | exact Or.inl rfl | exact Or.inl rfl)⟩
      · refine ab_aload_n d_PW_run_34 rfl ?_
        refine ab_getf (fs := [vR f_ready, vR f_tape, vR f_reader, vR f_programs, vR f_subject, vR f_spans, vR f_threads, vR f_marks, vR f_oneMind, vR f_states, vR f_latest, vR f_matches, vR f_pieces, vR f_template, vR f_result, vR f_spare, vz cmp, vz ovs]) f_PW_62 d_PW_run_35 hw_.2.2 rfl ?_
        refine ab_aload_n d_PW_run_38 rfl ?_
        obtain ⟨fsR, hR⟩ := pomI_f_oneMind.recv
        refine ab_callV (d' := d - 1) (as := [vR q]) (st := []) (r := _) (z_OM_suits (o := o) (a := f_oneMind) (on := on) (nt := nt) (q := q) (lq := lq) (ki := ki) (ne := ne) (ot := ot) (cnt := cnt) (fi := fi) (la := la) (ra := ra) (ru := ru) (gr := gr) (wi := wi) (sz := sz) (fl := fl) (ve := ve) (mi := mi) (na := na) (nl := nl) (K := K) (N := N) (O := O) (RR := RR) (nr := nr) (sto := sto) hq hki hne hot hra pomI_f_oneMind (by omega) (by omega) hpu hp hr (by omega) (by omega) (by omega) (by omega) hpo hmi hoc (by omega) (by omega) (by omega)) (fun oc G2 h => by rcases h with ⟨_, _, _, _, _, h, _⟩ | ⟨_, _, _, _, _, h, _⟩ <;> exact ⟨_, h⟩) (by omega) m_OM_suits ml_PW_247 im_OM_suits se_OM_suits c_OM hR (Nat.le_of_ble_eq_true rfl) d_PW_run_39 rfl ?_
        intro v G236 hq
        rcases hq with ⟨o237, on2238, nt2239, mi2240, so2241, hv, hfk, hNq, hNki, hNne, hNot, hNra, pNomI_f_oneMind, hq242, hq243, hq244, hq245, hq246, hq247, hq248, hq249⟩ | ⟨o250, on2251, nt2252, mi2253, so2254, hv, hfk, hNq, hNki, hNne, hNot, hNra, pNomI_f_oneMind, hq255, hq256, hq257, hq258, hq259, hq260, hq261, hq262, hq263, hq264, hq265⟩
        · cases hv
          have hw_ := hfk.get hw_ (by simp only [List.mem_cons, List.not_mem_nil, or_false]; omega)
          have hf_spans := hfk.get hf_spans (by simp only [List.mem_cons, List.not_mem_nil, or_false]; omega)
          have h17 := hfk.get h17 (by simp only [List.mem_cons, List.not_mem_nil, or_false]; omega)
          have hna := hfk.get hna (by simp only [List.mem_cons, List.not_mem_nil, or_false]; omega)
          have hnl := hfk.get hnl (by simp only [List.mem_cons, List.not_mem_nil, or_false]; omega)
          have hf_subject := hfk.get hf_subject (by simp only [List.mem_cons, List.not_mem_nil, or_false]; omega)
          have hby_ := hfk.get hby_ (by simp only [List.mem_cons, List.not_mem_nil, or_false]; omega)
          have hco := hfk.get hco (by simp only [List.mem_cons, List.not_mem_nil, or_false]; omega)
          have hre := hfk.get hre (by simp only [List.mem_cons, List.not_mem_nil, or_false]; omega)
          have hho := hfk.get hho (by simp only [List.mem_cons, List.not_mem_nil, or_false]; omega)
          have pthI_f_threads := thI.fr hfk pthI_f_threads (by simp only [List.mem_cons, List.not_mem_nil, or_false]; omega) (by simp only [List.mem_cons, List.not_mem_nil, or_false]; omega) (by simp only [List.mem_cons, List.not_mem_nil, or_false]; omega) (by simp only [List.mem_cons, List.not_mem_nil, or_false]; omega) (by simp only [List.mem_cons, List.not_mem_nil, or_false]; omega) (by simp only [List.mem_cons, List.not_mem_nil, or_false]; omega) (by simp only [List.mem_cons, List.not_mem_nil, or_false]; omega) (by simp only [List.mem_cons, List.not_mem_nil, or_false]; omega)
          have pmkI_f_marks := mkI.fr hfk pmkI_f_marks (by simp only [List.mem_cons, List.not_mem_nil, or_false]; omega) (by simp only [List.mem_cons, List.not_mem_nil, or_false]; omega) (by simp only [List.mem_cons, List.not_mem_nil, or_false]; omega) (by simp only [List.mem_cons, List.not_mem_nil, or_false]; omega)
          have pstI_f_states := stI.fr hfk pstI_f_states (by simp only [List.mem_cons, List.not_mem_nil, or_false]; omega) (by simp only [List.mem_cons, List.not_mem_nil, or_false]; omega) (by simp only [List.mem_cons, List.not_mem_nil, or_false]; omega) (by simp only [List.mem_cons, List.not_mem_nil, or_false]; omega) (by simp only [List.mem_cons, List.not_mem_nil, or_false]; omega) (by simp only [List.mem_cons, List.not_mem_nil, or_false]; omega) (by simp only [List.mem_cons, List.not_mem_nil, or_false]; omega) (by simp only [List.mem_cons, List.not_mem_nil, or_false]; omega) (by simp only [List.mem_cons, List.not_mem_nil, or_false]; omega)
          have pomI_f_oneMind := pNomI_f_oneMind
          have hfr := hfr.tr hfk (by simp)
          have hq266 := hfk.1
          have hq := hNq
          have hki := hNki
          have hne := hNne
          have hot := hNot
          have hra := hNra
          change ab_W _ _ _ G236 42 [some (vR w_), some (vR q), some (vz hw), some (vz mch), some (vz p)] [vz 0] _
          refine zz_if_eq (tgt := 65) d_PW_run_42 (by decide) (by decide) (fun c268 => ?_) (fun c268 => absurd c268 (by decide))
          refine ab_iload_n d_PW_run_65 rfl ?_
          refine zz_iconst d_PW_run_66 ?_
          refine zz_icmp_ne (tgt := 90) d_PW_run_67 (by decide) (by omega) (by decide) (fun c269 => ?_) (fun c269 => absurd c269 (by omega))
          refine ab_aload_n d_PW_run_90 rfl ?_
          refine ab_getf (fs := [vR f_ready, vR f_tape, vR f_reader, vR f_programs, vR f_subject, vR f_spans, vR f_threads, vR f_marks, vR f_oneMind, vR f_states, vR f_latest, vR f_matches, vR f_pieces, vR f_template, vR f_result, vR f_spare, vz cmp, vz ovs]) f_PW_55 d_PW_run_91 hw_.2.2 rfl ?_
          refine ab_aload_n d_PW_run_94 rfl ?_
          refine ab_aload_n d_PW_run_95 rfl ?_
          refine ab_getf (fs := [vR f_ready, vR f_tape, vR f_reader, vR f_programs, vR f_subject, vR f_spans, vR f_threads, vR f_marks, vR f_oneMind, vR f_states, vR f_latest, vR f_matches, vR f_pieces, vR f_template, vR f_result, vR f_spare, vz cmp, vz ovs]) f_PW_38 d_PW_run_96 hw_.2.2 rfl ?_
          refine ab_iload_n d_PW_run_99 rfl ?_
          refine ab_iload d_PW_run_100 rfl ?_
          refine ab_aload_n d_PW_run_102 rfl ?_
          refine ab_getf (fs := [vR f_ready, vR f_tape, vR f_reader, vR f_programs, vR f_subject, vR f_spans, vR f_threads, vR f_marks, vR f_oneMind, vR f_states, vR f_latest, vR f_matches, vR f_pieces, vR f_template, vR f_result, vR f_spare, vz cmp, vz ovs]) f_PW_42 d_PW_run_103 hw_.2.2 rfl ?_
          have hnt2_ := pomI_f_oneMind.nt
          have hq270 := stT_le ns
          have hq271 := stC_le ns
          have hq272 := onPQ_le on2238
          have hq273 := onSQ_le on2238
          obtain ⟨wk_k, mk_k, stk_k, w_k, df_k, dp_k, fo_k, fy_k, hw_k, WK_k, M_k, SK_k, sp0_k, q0_k, s0_k, hf_marks, hwk_k, hmk_k, hstk_k, cn_k, hst_k, cfo_k, cst0_k⟩ := pmkI_f_marks
          refine ab_callV (d' := d - 1) (as := [vR q, vR f_subject, vz hw, vz p, vR f_spans]) (st := []) (r := _) (z_MK_begin (o := o237) (q := q) (lq := lq) (ki := ki) (ne := ne) (ot := ot) (cnt := cnt) (fi := fi) (la := la) (ra := ra) (ru := ru) (gr := gr) (wi := wi) (sz := sz) (fl := fl) (ve := ve) (mi := mi2240) (na := na) (nl := nl) (s := f_subject) (by_ := by_) (co := co) (re := re) (ho := ho) (n := n) (a := f_marks) (sp := f_spans) (wk := wk_k) (mk := mk_k) (stk := stk_k) (dp := dp_k) (fo := fo_k) (hw := hw) (stp := stm) (M := M_k) (nm := nm) (q0 := q0_k) (s0 := s0_k) (sp0 := sp0_k) (from_ := p) (hw0 := hw_k) (fy0 := fy_k) (w0 := w_k) (df0 := df_k) hf_marks hmk_k hq hf_subject (by omega) (by omega) (by omega) (by omega) (by omega) (by omega) (by omega)) (fun oc G2 h => by rcases h with ⟨_, _, _, _, _, _, h, _⟩ <;> exact ⟨_, h⟩) (by omega) m_MK_begin ml_PW_189 im_MK_begin se_MK_begin c_MK hf_marks.2.2 (Nat.le_of_ble_eq_true rfl) d_PW_run_106 rfl ?_
          intro v G274 hq
          rcases hq with ⟨o275, w2276, fy2277, mk2278, nm2279, M2280, hv, hfk, hNf_marks, hNmk2278, hq281, hq282, hq283, hq284, hq285, hq286, hq287⟩
          cases hv
          have hw_ := hfk.get hw_ (by decide)
          have hf_spans := hfk.get hf_spans (by decide)
          have h17 := hfk.get h17 (by decide)
          have hq := hfk.get hq (by simp only [List.mem_cons, List.not_mem_nil, or_false]; omega)
          have hki := hfk.get hki (by simp only [List.mem_cons, List.not_mem_nil, or_false]; omega)
          have hne := hfk.get hne (by simp only [List.mem_cons, List.not_mem_nil, or_false]; omega)
          have hot := hfk.get hot (by simp only [List.mem_cons, List.not_mem_nil, or_false]; omega)
          have hra := hfk.get hra (by simp only [List.mem_cons, List.not_mem_nil, or_false]; omega)
          have hna := hfk.get hna (by simp only [List.mem_cons, List.not_mem_nil, or_false]; omega)
          have hnl := hfk.get hnl (by simp only [List.mem_cons, List.not_mem_nil, or_false]; omega)
          have hf_subject := hfk.get hf_subject (by decide)
          have hby_ := hfk.get hby_ (by decide)
          have hco := hfk.get hco (by decide)
          have hre := hfk.get hre (by decide)
          have hho := hfk.get hho (by decide)
          have hwk_k := hfk.get hwk_k (by decide)
          have hstk_k := hfk.get hstk_k (by decide)
          have pthI_f_threads := thI.fr hfk pthI_f_threads (by decide) (by decide) (by decide) (by decide) (by decide) (by decide) (by decide) (by decide)
          have pomI_f_oneMind := omI.fr hfk pomI_f_oneMind (by decide) (by decide) (by decide) (by decide) (by decide) (by decide) (by decide) (by decide)
          have pstI_f_states := stI.fr hfk pstI_f_states (by decide) (by decide) (by decide) (by decide) (by decide) (by decide) (by decide) (by decide) (by decide)
          have hfr := hfr.tr hfk (by simp)
          have hq288 := hfk.1
          have hf_marks := hNf_marks
          have hmk2278 := hNmk2278
          change ab_W _ _ _ G274 109 [some (vR w_), some (vR q), some (vz hw), some (vz mch), some (vz p)] [] _
          have hub_ := ucn_b (M := M2280) (w := w2276) (df := p) (n := n) (by omega) (by omega)
          have hzt2_ : zT nm2279 52026 ≤ 156078 := zT_le (c := 52026) (by omega) rfl
          refine ab_aload_n d_PW_run_109 rfl ?_
          refine ab_getf (fs := [vR f_ready, vR f_tape, vR f_reader, vR f_programs, vR f_subject, vR f_spans, vR f_threads, vR f_marks, vR f_oneMind, vR f_states, vR f_latest, vR f_matches, vR f_pieces, vR f_template, vR f_result, vR f_spare, vz cmp, vz ovs]) f_PW_55 d_PW_run_110 hw_.2.2 rfl ?_
          refine ab_iload d_PW_run_113 rfl ?_
          refine ab_callV (d' := d - 1) (as := [vz p]) (st := []) (r := _) (z_MK_find (o := o275) (q := q) (lq := lq) (ki := ki) (ne := ne) (ot := ot) (cnt := cnt) (fi := fi) (la := la) (ra := ra) (ru := ru) (gr := gr) (wi := wi) (sz := sz) (fl := fl) (ve := ve) (mi := mi2240) (na := na) (nl := nl) (K := K) (N := N) (O := O) (RR := RR) (nr := nr) (s := f_subject) (by_ := by_) (co := co) (re := re) (ho := ho) (n := n) (C := C) (Rs := Rs) (H := H) (mc := mc) (a := f_marks) (sp := f_spans) (wk := wk_k) (mk := mk2278) (stk := stk_k) (w := w2276) (df := p) (dp := dp_k) (fo := fo_k) (fy := fy2277) (hw := hw) (stp := stm) (SP := SP) (WK := WK_k) (M := M2280) (SK := SK_k) (nm := nm2279) (ns := ns) (p := p) (v9 := v9_) hf_marks hf_spans hwk_k hmk2278 hstk_k hq hki hne hot hra hf_subject hco hre hho (by omega) hp hr (by omega) hsu (by omega) (by omega) (by omega) (by omega) (by omega) (by omega) hst_k (by omega) (by omega) jsp (by omega) (by omega) hpm_ (ddC_0 (by omega)) (by omega)) (fun oc G2 h => by rcases h with ⟨_, _, _, _, _, _, _, _, _, _, _, h, _⟩ | ⟨_, _, _, _, _, _, _, _, _, _, _, _, h, _⟩ <;> exact ⟨_, h⟩) (by omega) m_MK_find ml_PW_251 im_MK_find se_MK_find c_MK hf_marks.2.2 (Nat.le_of_ble_eq_true rfl) d_PW_run_115 rfl ?_
          intro v G289 hq
          rcases hq with ⟨o290, df2291, dp2292, fo2293, st2294, sk2295, ns2296, WK2297, M2298, SK2299, SP2300, hv, hfk, hNf_marks, hNf_spans, hNwk_k, hNmk2278, hNsk2295, hq301, hq302, hq303, hq304, hq305, hq306, hq307, hq308, hq309⟩ | ⟨o310, df2311, dp2312, fo2313, st2314, sk2315, ns2316, WK2317, M2318, SK2319, SP2320, r321, hv, hfk, hNf_marks, hNf_spans, hNwk_k, hNmk2278, hNsk2315, hq322, hq323, hq324, hq325, hq326, hq327, hq328, hq329, hq330, hq331, hq332, hq333, hq334, hq335⟩
          · cases hv
            have hw_ := hfk.get hw_ (by decide)
            have h17 := hfk.get h17 (by decide)
            have hq := hfk.get hq (by simp only [List.mem_cons, List.not_mem_nil, or_false]; omega)
            have hki := hfk.get hki (by simp only [List.mem_cons, List.not_mem_nil, or_false]; omega)
            have hne := hfk.get hne (by simp only [List.mem_cons, List.not_mem_nil, or_false]; omega)
            have hot := hfk.get hot (by simp only [List.mem_cons, List.not_mem_nil, or_false]; omega)
            have hra := hfk.get hra (by simp only [List.mem_cons, List.not_mem_nil, or_false]; omega)
            have hna := hfk.get hna (by simp only [List.mem_cons, List.not_mem_nil, or_false]; omega)
            have hnl := hfk.get hnl (by simp only [List.mem_cons, List.not_mem_nil, or_false]; omega)
            have hf_subject := hfk.get hf_subject (by decide)
            have hby_ := hfk.get hby_ (by decide)
            have hco := hfk.get hco (by decide)
            have hre := hfk.get hre (by decide)
            have hho := hfk.get hho (by decide)
            have pthI_f_threads := thI.fr hfk pthI_f_threads (by decide) (by decide) (by decide) (by decide) (by decide) (by decide) (by decide) (by decide)
            have pomI_f_oneMind := omI.fr hfk pomI_f_oneMind (by decide) (by decide) (by decide) (by decide) (by decide) (by decide) (by decide) (by decide)
            have pstI_f_states := stI.fr hfk pstI_f_states (by decide) (by decide) (by decide) (by decide) (by decide) (by decide) (by decide) (by decide) (by decide)
            have hfr := hfr.tr hfk (by simp)
            have hq336 := hfk.1
            have hf_marks := hNf_marks
            have hf_spans := hNf_spans
            have hwk_k := hNwk_k
            have hmk2278 := hNmk2278
            have hsk2295 := hNsk2295
            change ab_W _ _ _ G289 118 [some (vR w_), some (vR q), some (vz hw), some (vz mch), some (vz p)] [vz (-1)] _
            have hub2_ := ucn_b (M := M2298) (w := w2276) (df := df2291) (n := n) (by omega) (by omega)
            have pmkI_f_marks : mkI o290 G289 f_marks nm2279 ns2296 st2294 := ⟨wk_k, mk2278, sk2295, w2276, df2291, dp2292, fo2293, fy2277, hw, WK2297, M2298, SK2299, vR f_spans, vR q, vR f_subject, hf_marks, hwk_k, hmk2278, hsk2295, (by omega), hq302, (by omega), (by omega)⟩
            have hmq_ : onq mi2240 on2238 := hq244
            have ppgB_q : pgB o290 G289 q lq nr cv cmp on2238 mi2240 sz := ⟨ki, ne, ot, cnt, fi, la, ra, ru, gr, wi, fl, ve, na, nl, K, N, O, RR, NA, NL, hq, hki, hne, hot, hra, hna, hnl, (by omega), hpu, hp, hr, hch, (by omega), (by omega), (by omega), (by omega), (by omega), hq243, hmq_, (by omega), (by omega), jnl, hiv, hmn, jna, hla, hpv, (by omega), hkk, hq245, (by omega)⟩
            have psuI_f_subject : suI o290 G289 f_subject n m f := ⟨by_, co, re, ho, C, Rs, H, mc, hf_subject, hby_, hco, hre, hho, (by omega), hsu⟩
            refine zz_iret rfl d_PW_run_118 ?_
            rw [hQ]; exact ⟨_, _, _, _, _, _, _, _, _, _, _, _, _, rfl, hfr, hf_spans, pthI_f_threads, pmkI_f_marks, pomI_f_oneMind, pstI_f_states, psuI_f_subject, ppgB_q, (by exact rnY_m hmv_ hpm_.wp hsu.1 hq285 (by omega) hiv (by omega) hq309 (by omega)), (by omega), (by omega), (by omega), (by exact hq304), (by omega), (by omega), (by first | exact Or.inl rfl | exact hq248)⟩
          · cases hv
            have hw_ := hfk.get hw_ (by decide)
            have h17 := hfk.get h17 (by decide)
            have hq := hfk.get hq (by simp only [List.mem_cons, List.not_mem_nil, or_false]; omega)
            have hki := hfk.get hki (by simp only [List.mem_cons, List.not_mem_nil, or_false]; omega)
            have hne := hfk.get hne (by simp only [List.mem_cons, List.not_mem_nil, or_false]; omega)
            have hot := hfk.get hot (by simp only [List.mem_cons, List.not_mem_nil, or_false]; omega)
            have hra := hfk.get hra (by simp only [List.mem_cons, List.not_mem_nil, or_false]; omega)
            have hna := hfk.get hna (by simp only [List.mem_cons, List.not_mem_nil, or_false]; omega)
            have hnl := hfk.get hnl (by simp only [List.mem_cons, List.not_mem_nil, or_false]; omega)
            have hf_subject := hfk.get hf_subject (by decide)
            have hby_ := hfk.get hby_ (by decide)
            have hco := hfk.get hco (by decide)
            have hre := hfk.get hre (by decide)
            have hho := hfk.get hho (by decide)
            have pthI_f_threads := thI.fr hfk pthI_f_threads (by decide) (by decide) (by decide) (by decide) (by decide) (by decide) (by decide) (by decide)
            have pomI_f_oneMind := omI.fr hfk pomI_f_oneMind (by decide) (by decide) (by decide) (by decide) (by decide) (by decide) (by decide) (by decide)
            have pstI_f_states := stI.fr hfk pstI_f_states (by decide) (by decide) (by decide) (by decide) (by decide) (by decide) (by decide) (by decide) (by decide)
            have hfr := hfr.tr hfk (by simp)
            have hq337 := hfk.1
            have hf_marks := hNf_marks
            have hf_spans := hNf_spans
            have hwk_k := hNwk_k
            have hmk2278 := hNmk2278
            have hsk2315 := hNsk2315
            change ab_W _ _ _ G289 118 [some (vR w_), some (vR q), some (vz hw), some (vz mch), some (vz p)] [vz r321] _
            have hub2_ := ucn_b (M := M2318) (w := w2276) (df := df2311) (n := n) (by omega) (by omega)
            have pmkI_f_marks : mkI o310 G289 f_marks nm2279 ns2316 st2314 := ⟨wk_k, mk2278, sk2315, w2276, df2311, dp2312, fo2313, fy2277, hw, WK2317, M2318, SK2319, vR f_spans, vR q, vR f_subject, hf_marks, hwk_k, hmk2278, hsk2315, (by omega), hq323, (by omega), (by omega)⟩
            have hmq_ : onq mi2240 on2238 := hq244
            have ppgB_q : pgB o310 G289 q lq nr cv cmp on2238 mi2240 sz := ⟨ki, ne, ot, cnt, fi, la, ra, ru, gr, wi, fl, ve, na, nl, K, N, O, RR, NA, NL, hq, hki, hne, hot, hra, hna, hnl, (by omega), hpu, hp, hr, hch, (by omega), (by omega), (by omega), (by omega), (by omega), hq243, hmq_, (by omega), (by omega), jnl, hiv, hmn, jna, hla, hpv, (by omega), hkk, hq245, (by omega)⟩
            have psuI_f_subject : suI o310 G289 f_subject n m f := ⟨by_, co, re, ho, C, Rs, H, mc, hf_subject, hby_, hco, hre, hho, (by omega), hsu⟩
            refine zz_iret rfl d_PW_run_118 ?_
            rw [hQ]; exact ⟨_, _, _, _, _, _, _, _, _, _, _, _, _, rfl, hfr, hf_spans, pthI_f_threads, pmkI_f_marks, pomI_f_oneMind, pstI_f_states, psuI_f_subject, ppgB_q, (by exact rnY_m hmv_ hpm_.wp hsu.1 hq285 (by omega) hiv (by omega) hq334 (by omega)), (by omega), (by omega), (by omega), (by exact hq325), (by omega), (by omega), (by first | exact Or.inl rfl | exact hq248)⟩
        · cases hv
          have hw_ := hfk.get hw_ (by simp only [List.mem_cons, List.not_mem_nil, or_false]; omega)
          have hf_spans := hfk.get hf_spans (by simp only [List.mem_cons, List.not_mem_nil, or_false]; omega)
          have h17 := hfk.get h17 (by simp only [List.mem_cons, List.not_mem_nil, or_false]; omega)
          have hna := hfk.get hna (by simp only [List.mem_cons, List.not_mem_nil, or_false]; omega)
          have hnl := hfk.get hnl (by simp only [List.mem_cons, List.not_mem_nil, or_false]; omega)
          have hf_subject := hfk.get hf_subject (by simp only [List.mem_cons, List.not_mem_nil, or_false]; omega)
          have hby_ := hfk.get hby_ (by simp only [List.mem_cons, List.not_mem_nil, or_false]; omega)
          have hco := hfk.get hco (by simp only [List.mem_cons, List.not_mem_nil, or_false]; omega)
          have hre := hfk.get hre (by simp only [List.mem_cons, List.not_mem_nil, or_false]; omega)
          have hho := hfk.get hho (by simp only [List.mem_cons, List.not_mem_nil, or_false]; omega)
          have pthI_f_threads := thI.fr hfk pthI_f_threads (by simp only [List.mem_cons, List.not_mem_nil, or_false]; omega) (by simp only [List.mem_cons, List.not_mem_nil, or_false]; omega) (by simp only [List.mem_cons, List.not_mem_nil, or_false]; omega) (by simp only [List.mem_cons, List.not_mem_nil, or_false]; omega) (by simp only [List.mem_cons, List.not_mem_nil, or_false]; omega) (by simp only [List.mem_cons, List.not_mem_nil, or_false]; omega) (by simp only [List.mem_cons, List.not_mem_nil, or_false]; omega) (by simp only [List.mem_cons, List.not_mem_nil, or_false]; omega)
          have pmkI_f_marks := mkI.fr hfk pmkI_f_marks (by simp only [List.mem_cons, List.not_mem_nil, or_false]; omega) (by simp only [List.mem_cons, List.not_mem_nil, or_false]; omega) (by simp only [List.mem_cons, List.not_mem_nil, or_false]; omega) (by simp only [List.mem_cons, List.not_mem_nil, or_false]; omega)
          have pstI_f_states := stI.fr hfk pstI_f_states (by simp only [List.mem_cons, List.not_mem_nil, or_false]; omega) (by simp only [List.mem_cons, List.not_mem_nil, or_false]; omega) (by simp only [List.mem_cons, List.not_mem_nil, or_false]; omega) (by simp only [List.mem_cons, List.not_mem_nil, or_false]; omega) (by simp only [List.mem_cons, List.not_mem_nil, or_false]; omega) (by simp only [List.mem_cons, List.not_mem_nil, or_false]; omega) (by simp only [List.mem_cons, List.not_mem_nil, or_false]; omega) (by simp only [List.mem_cons, List.not_mem_nil, or_false]; omega) (by simp only [List.mem_cons, List.not_mem_nil, or_false]; omega)
          have pomI_f_oneMind := pNomI_f_oneMind
          have hfr := hfr.tr hfk (by simp)
          have hq267 := hfk.1
          have hq := hNq
          have hki := hNki
          have hne := hNne
          have hot := hNot
          have hra := hNra
          change ab_W _ _ _ G236 42 [some (vR w_), some (vR q), some (vz hw), some (vz mch), some (vz p)] [vz 1] _
          refine zz_if_eq (tgt := 65) d_PW_run_42 (by decide) (by decide) (fun c338 => absurd c338 (by decide)) (fun c338 => ?_)
          refine ab_aload_n d_PW_run_45 rfl ?_
          refine ab_getf (fs := [vR f_ready, vR f_tape, vR f_reader, vR f_programs, vR f_subject, vR f_spans, vR f_threads, vR f_marks, vR f_oneMind, vR f_states, vR f_latest, vR f_matches, vR f_pieces, vR f_template, vR f_result, vR f_spare, vz cmp, vz ovs]) f_PW_62 d_PW_run_46 hw_.2.2 rfl ?_
          refine ab_aload_n d_PW_run_49 rfl ?_
          refine ab_aload_n d_PW_run_50 rfl ?_
          refine ab_getf (fs := [vR f_ready, vR f_tape, vR f_reader, vR f_programs, vR f_subject, vR f_spans, vR f_threads, vR f_marks, vR f_oneMind, vR f_states, vR f_latest, vR f_matches, vR f_pieces, vR f_template, vR f_result, vR f_spare, vz cmp, vz ovs]) f_PW_38 d_PW_run_51 hw_.2.2 rfl ?_
          refine ab_iload_n d_PW_run_54 rfl ?_
          refine ab_iload d_PW_run_55 rfl ?_
          refine ab_aload_n d_PW_run_57 rfl ?_
          refine ab_getf (fs := [vR f_ready, vR f_tape, vR f_reader, vR f_programs, vR f_subject, vR f_spans, vR f_threads, vR f_marks, vR f_oneMind, vR f_states, vR f_latest, vR f_matches, vR f_pieces, vR f_template, vR f_result, vR f_spare, vz cmp, vz ovs]) f_PW_42 d_PW_run_58 hw_.2.2 rfl ?_
          obtain ⟨wk_o, onw_o, tkn_o, se__o, cle_o, stk_o, dp_o, fo_o, chn_o, hw_o, fy_o, WK_o, ON_o, SK_o, sp0_o, q0_o, s0_o, SE_o, CL_o, ct_o, P_o, nk_o, hf_oneMind, hwk_o, honw_o, hse__o, hcle_o, hstk_o, pcsI_tkn_o, hon_o, hnt_o, cst0_o⟩ := pomI_f_oneMind
          have hnk_ : nk_o = 809 := by rcases hon_o with z | z <;> omega
          subst hnk_
          refine ab_callV (d' := d - 1) (as := [vR q, vR f_subject, vz hw, vz p, vR f_spans]) (st := []) (r := _) (z_OM_find (o := o250) (a := f_oneMind) (sp := f_spans) (wk := wk_o) (onw := onw_o) (tkn := tkn_o) (se_ := se__o) (cle := cle_o) (stk := stk_o) (dp := dp_o) (chn := chn_o) (hw := hw) (stp := so2254) (SP := SP) (WK := WK_o) (ON := ON_o) (SK := SK_o) (q := q) (lq := lq) (ki := ki) (ne := ne) (ot := ot) (cnt := cnt) (fi := fi) (la := la) (ra := ra) (ru := ru) (gr := gr) (wi := wi) (sz := sz) (fl := fl) (ve := ve) (mi := mi2253) (na := na) (nl := nl) (K := K) (N := N) (O := O) (RR := RR) (nr := nr) (s := f_subject) (by_ := by_) (co := co) (re := re) (ho := ho) (n := n) (C := C) (Rs := Rs) (H := H) (mc := mc) (p := p) (sp0 := sp0_o) (q0 := q0_o) (s0 := s0_o) (hw0 := hw_o) (fy0 := fy_o) (fo0 := fo_o) (u9 := v9_) hf_oneMind hf_spans hwk_o honw_o hstk_o hq hki hne hot hra hf_subject hco hre hho (by omega) hp hr (by omega) (by omega) hsu (by omega) hq263 (by omega) (by omega) jsp hq265 hla.2 (by omega) hpm_ (by omega) (by omega)) (fun oc G2 h => by rcases h with ⟨_, _, _, _, _, _, _, _, _, h, _⟩ | ⟨_, _, _, _, _, _, _, _, _, _, h, _⟩ <;> exact ⟨_, h⟩) (by omega) m_OM_find ml_PW_250 im_OM_find se_OM_find c_OM hf_oneMind.2.2 (Nat.le_of_ble_eq_true rfl) d_PW_run_61 rfl ?_
          intro v G339 hq
          rcases hq with ⟨dp2340, fo2341, ch2342, fy2343, st2344, SP2345, WK2346, ON2347, SK2348, hv, hfk, hlk, hsk, hNf_oneMind, hNf_spans, hNwk_o, hNonw_o, hNstk_o, hq349, hq350, hq351, hq352, hq353⟩ | ⟨dp2354, fo2355, ch2356, fy2357, st2358, SP2359, WK2360, ON2361, SK2362, r363, hv, hfk, hlk, hsk, hNf_oneMind, hNf_spans, hNwk_o, hNonw_o, hNstk_o, hq364, hq365, hq366, hq367, hq368, hq369, hq370, hq371, hq372⟩
          · cases hv
            have hw_ := hfk.get hw_ (by decide)
            have h17 := hfk.get h17 (by decide)
            have hq := hfk.get hq (by simp only [List.mem_cons, List.not_mem_nil, or_false]; omega)
            have hki := hfk.get hki (by simp only [List.mem_cons, List.not_mem_nil, or_false]; omega)
            have hne := hfk.get hne (by simp only [List.mem_cons, List.not_mem_nil, or_false]; omega)
            have hot := hfk.get hot (by simp only [List.mem_cons, List.not_mem_nil, or_false]; omega)
            have hra := hfk.get hra (by simp only [List.mem_cons, List.not_mem_nil, or_false]; omega)
            have hna := hfk.get hna (by simp only [List.mem_cons, List.not_mem_nil, or_false]; omega)
            have hnl := hfk.get hnl (by simp only [List.mem_cons, List.not_mem_nil, or_false]; omega)
            have hf_subject := hfk.get hf_subject (by decide)
            have hby_ := hfk.get hby_ (by decide)
            have hco := hfk.get hco (by decide)
            have hre := hfk.get hre (by decide)
            have hho := hfk.get hho (by decide)
            have hse__o := hfk.get hse__o (by decide)
            have hcle_o := hfk.get hcle_o (by decide)
            have pthI_f_threads := thI.fr hfk pthI_f_threads (by decide) (by decide) (by decide) (by decide) (by decide) (by decide) (by decide) (by decide)
            have pmkI_f_marks := mkI.fr hfk pmkI_f_marks (by decide) (by decide) (by decide) (by decide)
            have pstI_f_states := stI.fr hfk pstI_f_states (by decide) (by decide) (by decide) (by decide) (by decide) (by decide) (by decide) (by decide) (by decide)
            have pcsI_tkn_o := csI.fr hfk pcsI_tkn_o (by decide) (by decide)
            have hfr := hfr.tr hfk (by simp)
            have hq373 := hlk
            have hq374 := hsk
            have hf_oneMind := hNf_oneMind
            have hf_spans := hNf_spans
            have hwk_o := hNwk_o
            have honw_o := hNonw_o
            have hstk_o := hNstk_o
            change ab_W _ _ _ G339 64 [some (vR w_), some (vR q), some (vz hw), some (vz mch), some (vz p)] [vz (-1)] _
            have pomI_f_oneMind : omI o250 G339 f_oneMind on2251 nt2252 st2344 := ⟨wk_o, onw_o, tkn_o, se__o, cle_o, stk_o, dp2340, fo2341, ch2342, hw, fy2343, WK2346, ON2347, SK2348, vR f_spans, vR q, vR f_subject, SE_o, CL_o, ct_o, P_o, 809, hf_oneMind, hwk_o, honw_o, hse__o, hcle_o, hstk_o, pcsI_tkn_o, (Or.inr ⟨by omega, rfl⟩), (by omega), (by omega)⟩
            have hmq_ : onq mi2253 on2251 := hq257
            have ppgB_q : pgB o250 G339 q lq nr cv cmp on2251 mi2253 sz := ⟨ki, ne, ot, cnt, fi, la, ra, ru, gr, wi, fl, ve, na, nl, K, N, O, RR, NA, NL, hq, hki, hne, hot, hra, hna, hnl, (by omega), hpu, hp, hr, hch, (by omega), (by omega), (by omega), (by omega), (by omega), hq256, hmq_, (by omega), (by omega), jnl, hiv, hmn, jna, hla, hpv, (by omega), hkk, hq258, (by omega)⟩
            have psuI_f_subject : suI o250 G339 f_subject n m f := ⟨by_, co, re, ho, C, Rs, H, mc, hf_subject, hby_, hco, hre, hho, (by omega), hsu⟩
            refine zz_iret rfl d_PW_run_64 ?_
            rw [hQ]; exact ⟨_, _, _, _, _, _, _, _, _, _, _, _, _, rfl, hfr, hf_spans, pthI_f_threads, pmkI_f_marks, pomI_f_oneMind, pstI_f_states, psuI_f_subject, ppgB_q, (by exact rnY_t hmv_ hpm_.wp hsu.1 hq350 (by omega) hiv (by omega) (by omega) hq351 (by omega)), (by omega), (by omega), (by omega), (by exact hq349), (by omega), (by omega), (by first | exact Or.inl rfl | exact hq261)⟩
          · cases hv
            have hw_ := hfk.get hw_ (by decide)
            have h17 := hfk.get h17 (by decide)
            have hq := hfk.get hq (by simp only [List.mem_cons, List.not_mem_nil, or_false]; omega)
            have hki := hfk.get hki (by simp only [List.mem_cons, List.not_mem_nil, or_false]; omega)
            have hne := hfk.get hne (by simp only [List.mem_cons, List.not_mem_nil, or_false]; omega)
            have hot := hfk.get hot (by simp only [List.mem_cons, List.not_mem_nil, or_false]; omega)
            have hra := hfk.get hra (by simp only [List.mem_cons, List.not_mem_nil, or_false]; omega)
            have hna := hfk.get hna (by simp only [List.mem_cons, List.not_mem_nil, or_false]; omega)
            have hnl := hfk.get hnl (by simp only [List.mem_cons, List.not_mem_nil, or_false]; omega)
            have hf_subject := hfk.get hf_subject (by decide)
            have hby_ := hfk.get hby_ (by decide)
            have hco := hfk.get hco (by decide)
            have hre := hfk.get hre (by decide)
            have hho := hfk.get hho (by decide)
            have hse__o := hfk.get hse__o (by decide)
            have hcle_o := hfk.get hcle_o (by decide)
            have pthI_f_threads := thI.fr hfk pthI_f_threads (by decide) (by decide) (by decide) (by decide) (by decide) (by decide) (by decide) (by decide)
            have pmkI_f_marks := mkI.fr hfk pmkI_f_marks (by decide) (by decide) (by decide) (by decide)
            have pstI_f_states := stI.fr hfk pstI_f_states (by decide) (by decide) (by decide) (by decide) (by decide) (by decide) (by decide) (by decide) (by decide)
            have pcsI_tkn_o := csI.fr hfk pcsI_tkn_o (by decide) (by decide)
            have hfr := hfr.tr hfk (by simp)
            have hq375 := hlk
            have hq376 := hsk
            have hf_oneMind := hNf_oneMind
            have hf_spans := hNf_spans
            have hwk_o := hNwk_o
            have honw_o := hNonw_o
            have hstk_o := hNstk_o
            change ab_W _ _ _ G339 64 [some (vR w_), some (vR q), some (vz hw), some (vz mch), some (vz p)] [vz r363] _
            have pomI_f_oneMind : omI o250 G339 f_oneMind on2251 nt2252 st2358 := ⟨wk_o, onw_o, tkn_o, se__o, cle_o, stk_o, dp2354, fo2355, ch2356, hw, fy2357, WK2360, ON2361, SK2362, vR f_spans, vR q, vR f_subject, SE_o, CL_o, ct_o, P_o, 809, hf_oneMind, hwk_o, honw_o, hse__o, hcle_o, hstk_o, pcsI_tkn_o, (Or.inr ⟨by omega, rfl⟩), (by omega), (by omega)⟩
            have hmq_ : onq mi2253 on2251 := hq257
            have ppgB_q : pgB o250 G339 q lq nr cv cmp on2251 mi2253 sz := ⟨ki, ne, ot, cnt, fi, la, ra, ru, gr, wi, fl, ve, na, nl, K, N, O, RR, NA, NL, hq, hki, hne, hot, hra, hna, hnl, (by omega), hpu, hp, hr, hch, (by omega), (by omega), (by omega), (by omega), (by omega), hq256, hmq_, (by omega), (by omega), jnl, hiv, hmn, jna, hla, hpv, (by omega), hkk, hq258, (by omega)⟩
            have psuI_f_subject : suI o250 G339 f_subject n m f := ⟨by_, co, re, ho, C, Rs, H, mc, hf_subject, hby_, hco, hre, hho, (by omega), hsu⟩
            refine zz_iret rfl d_PW_run_64 ?_
            rw [hQ]; exact ⟨_, _, _, _, _, _, _, _, _, _, _, _, _, rfl, hfr, hf_spans, pthI_f_threads, pmkI_f_marks, pomI_f_oneMind, pstI_f_states, psuI_f_subject, ppgB_q, (by exact rnY_t hmv_ hpm_.wp hsu.1 hq365 (by omega) hiv (by omega) (by omega) hq366 (by omega)), (by omega), (by omega), (by omega), (by exact hq364), (by omega), (by omega), (by first | exact Or.inl rfl | exact hq261)⟩
  · refine ab_aload_n d_PW_run_5 rfl ?_
    refine ab_getf (fs := [vR f_ready, vR f_tape, vR f_reader, vR f_programs, vR f_subject, vR f_spans, vR f_threads, vR f_marks, vR f_oneMind, vR f_states, vR f_latest, vR f_matches, vR f_pieces, vR f_template, vR f_result, vR f_spare, vz cmp, vz ovs]) f_PW_48 d_PW_run_6 hw_.2.2 rfl ?_
    refine ab_aload_n d_PW_run_9 rfl ?_
    refine ab_aload_n d_PW_run_10 rfl ?_
    refine ab_getf (fs := [vR f_ready, vR f_tape, vR f_reader, vR f_programs, vR f_subject, vR f_spans, vR f_threads, vR f_marks, vR f_oneMind, vR f_states, vR f_latest, vR f_matches, vR f_pieces, vR f_template, vR f_result, vR f_spare, vz cmp, vz ovs]) f_PW_38 d_PW_run_11 hw_.2.2 rfl ?_
    refine ab_iload_n d_PW_run_14 rfl ?_
    refine ab_iload d_PW_run_15 rfl ?_
    refine ab_aload_n d_PW_run_17 rfl ?_
    refine ab_getf (fs := [vR f_ready, vR f_tape, vR f_reader, vR f_programs, vR f_subject, vR f_spans, vR f_threads, vR f_marks, vR f_oneMind, vR f_states, vR f_latest, vR f_matches, vR f_pieces, vR f_template, vR f_result, vR f_spare, vz cmp, vz ovs]) f_PW_42 d_PW_run_18 hw_.2.2 rfl ?_
    obtain ⟨wk_t, nw_t, tn_t, nsp_t, tsp_t, se_t, stk_t, nc_t, tc_t, sta_t, fo_t, hw_t, fy_t, WK_t, NW_t, TN_t, NS_t, TS_t, SE_t, SK_t, l1_t, l2_t, l3_t, l4_t, sp0_t, q0_t, s0_t, hf_threads, hwk_t, hnw_t, htn_t, hnsp_t, htsp_t, hse_t, hstk_t, cl_t, jse_t, cst_t, cst0_t⟩ := pthI_f_threads
    refine ab_callV (d' := d - 1) (as := [vR q, vR f_subject, vz hw, vz p, vR f_spans]) (st := []) (r := _) (z_TH_find (o := o) (q := q) (lq := lq) (ki := ki) (ne := ne) (ot := ot) (cnt := cnt) (fi := fi) (la := la) (ra := ra) (ru := ru) (gr := gr) (wi := wi) (sz := sz) (fl := fl) (ve := ve) (mi := mi) (na := na) (nl := nl) (K := K) (N := N) (O := O) (RR := RR) (nr := nr) (s := f_subject) (by_ := by_) (co := co) (re := re) (ho := ho) (n := n) (C := C) (Rs := Rs) (H := H) (mc := mc) (a := f_threads) (sp := f_spans) (wk := wk_t) (nw := nw_t) (tn := tn_t) (nsp := nsp_t) (tsp := tsp_t) (se := se_t) (stk := stk_t) (nc := nc_t) (tc := tc_t) (sta := sta_t) (hw := hw) (stp := stt) (SP := SP) (WK := WK_t) (NW := NW_t) (TN := TN_t) (NS := NS_t) (TS := TS_t) (SE := SE_t) (SK := SK_t) (l1 := l1_t) (l2 := l2_t) (l3 := l3_t) (l4 := l4_t) (sp0 := sp0_t) (q0 := q0_t) (s0 := s0_t) (hw0 := hw_t) (fy0 := fy_t) (fo0 := fo_t) (p := p) (u9 := v9_) hf_threads hf_spans hwk_t hnw_t htn_t hnsp_t htsp_t hse_t hstk_t hq hki hne hot hra hf_subject hco hre hho (by omega) hp hr (by omega) hsu (by omega) hkk (by omega) (by omega) (by omega) (by omega) jse_t (by omega) jsp hpm_ (by omega)) (fun oc G2 h => by rcases h with ⟨_, _, _, _, _, _, _, _, _, _, _, _, _, _, _, _, _, _, _, _, _, _, h, _⟩ | ⟨_, _, _, _, _, _, _, _, _, _, _, _, _, _, _, _, _, _, _, _, _, _, _, h, _⟩ <;> exact ⟨_, h⟩) (by omega) m_TH_find ml_PW_243 im_TH_find se_TH_find c_TH hf_threads.2.2 (Nat.le_of_ble_eq_true rfl) d_PW_run_21 rfl ?_
    intro v G377 hq
    rcases hq with ⟨nw2378, tn2379, nsp2380, tsp2381, m1382, m2_383, m3384, m4385, nc2386, tc2387, sta2388, fo2389, fy2390, st2391, NW2392, TN2393, NS2394, TS2395, SE2396, SK2397, WK2398, SP2399, hv, hfk, hlk, hsk, hNf_threads, hNf_spans, hNwk_t, hNnw2378, hNtn2379, hNnsp2380, hNtsp2381, hNse_t, hNstk_t, hq400, hq401, hq402, hq403, hq404, hq405, hq406, hq407⟩ | ⟨nw2408, tn2409, nsp2410, tsp2411, m1412, m2_413, m3414, m4415, nc2416, tc2417, sta2418, fo2419, fy2420, st2421, NW2422, TN2423, NS2424, TS2425, SE2426, SK2427, WK2428, SP2429, r430, hv, hfk, hlk, hsk, hNf_threads, hNf_spans, hNwk_t, hNnw2408, hNtn2409, hNnsp2410, hNtsp2411, hNse_t, hNstk_t, hq431, hq432, hq433, hq434, hq435, hq436, hq437, hq438, hq439, hq440, hq441, hq442⟩
    · cases hv
      have hw_ := hfk.get hw_ (by decide)
      have h17 := hfk.get h17 (by decide)
      have hq := hfk.get hq (by simp only [List.mem_cons, List.not_mem_nil, or_false]; omega)
      have hki := hfk.get hki (by simp only [List.mem_cons, List.not_mem_nil, or_false]; omega)
      have hne := hfk.get hne (by simp only [List.mem_cons, List.not_mem_nil, or_false]; omega)
      have hot := hfk.get hot (by simp only [List.mem_cons, List.not_mem_nil, or_false]; omega)
      have hra := hfk.get hra (by simp only [List.mem_cons, List.not_mem_nil, or_false]; omega)
      have hna := hfk.get hna (by simp only [List.mem_cons, List.not_mem_nil, or_false]; omega)
      have hnl := hfk.get hnl (by simp only [List.mem_cons, List.not_mem_nil, or_false]; omega)
      have hf_subject := hfk.get hf_subject (by decide)
      have hby_ := hfk.get hby_ (by decide)
      have hco := hfk.get hco (by decide)
      have hre := hfk.get hre (by decide)
      have hho := hfk.get hho (by decide)
      have pmkI_f_marks := mkI.fr hfk pmkI_f_marks (by decide) (by decide) (by decide) (by decide)
      have pomI_f_oneMind := omI.fr hfk pomI_f_oneMind (by decide) (by decide) (by decide) (by decide) (by decide) (by decide) (by decide) (by decide)
      have pstI_f_states := stI.fr hfk pstI_f_states (by decide) (by decide) (by decide) (by decide) (by decide) (by decide) (by decide) (by decide) (by decide)
      have hfr := hfr.tr hfk (by simp)
      have hq443 := hlk
      have hq444 := hsk
      have hf_threads := hNf_threads
      have hf_spans := hNf_spans
      have hwk_t := hNwk_t
      have hnw2378 := hNnw2378
      have htn2379 := hNtn2379
      have hnsp2380 := hNnsp2380
      have htsp2381 := hNtsp2381
      have hse_t := hNse_t
      have hstk_t := hNstk_t
      change ab_W _ _ _ G377 24 [some (vR w_), some (vR q), some (vz hw), some (vz mch), some (vz p)] [vz (-1)] _
      have pthI_f_threads : thI o G377 f_threads st2391 := ⟨wk_t, nw2378, tn2379, nsp2380, tsp2381, se_t, stk_t, nc2386, tc2387, sta2388, fo2389, hw, fy2390, WK2398, NW2392, TN2393, NS2394, TS2395, SE2396, SK2397, m1382, m2_383, m3384, m4385, vR f_spans, vR q, vR f_subject, hf_threads, hwk_t, hnw2378, htn2379, hnsp2380, htsp2381, hse_t, hstk_t, (by omega), hq403, (by omega), (by omega)⟩
      have hmq_ : onq mi on := hmi
      have ppgB_q : pgB o G377 q lq nr cv cmp on mi sz := ⟨ki, ne, ot, cnt, fi, la, ra, ru, gr, wi, fl, ve, na, nl, K, N, O, RR, NA, NL, hq, hki, hne, hot, hra, hna, hnl, (by omega), hpu, hp, hr, hch, (by omega), (by omega), (by omega), (by omega), (by omega), hpo, hmq_, (by omega), (by omega), jnl, hiv, hmn, jna, hla, hpv, (by omega), hkk, hoc, (by omega)⟩
      have psuI_f_subject : suI o G377 f_subject n m f := ⟨by_, co, re, ho, C, Rs, H, mc, hf_subject, hby_, hco, hre, hho, (by omega), hsu⟩
      refine zz_iret rfl d_PW_run_24 ?_
      rw [hQ]; exact ⟨_, _, _, _, _, _, _, _, _, _, _, _, _, rfl, hfr, hf_spans, pthI_f_threads, pmkI_f_marks, pomI_f_oneMind, pstI_f_states, psuI_f_subject, ppgB_q, (by exact rnY_t hmv_ hpm_.wp hsu.1 hq404 (by omega) hiv (by omega) (by omega) hq405 (by omega)), (by omega), (by omega), (by omega), (by exact hq402), (by omega), (by omega), (by first | exact Or.inl rfl | exact Or.inl rfl)⟩
    · cases hv
      have hw_ := hfk.get hw_ (by decide)
      have h17 := hfk.get h17 (by decide)
      have hq := hfk.get hq (by simp only [List.mem_cons, List.not_mem_nil, or_false]; omega)
      have hki := hfk.get hki (by simp only [List.mem_cons, List.not_mem_nil, or_false]; omega)
      have hne := hfk.get hne (by simp only [List.mem_cons, List.not_mem_nil, or_false]; omega)
      have hot := hfk.get hot (by simp only [List.mem_cons, List.not_mem_nil, or_false]; omega)
      have hra := hfk.get hra (by simp only [List.mem_cons, List.not_mem_nil, or_false]; omega)
      have hna := hfk.get hna (by simp only [List.mem_cons, List.not_mem_nil, or_false]; omega)
      have hnl := hfk.get hnl (by simp only [List.mem_cons, List.not_mem_nil, or_false]; omega)
      have hf_subject := hfk.get hf_subject (by decide)
      have hby_ := hfk.get hby_ (by decide)
      have hco := hfk.get hco (by decide)
      have hre := hfk.get hre (by decide)
      have hho := hfk.get hho (by decide)
      have pmkI_f_marks := mkI.fr hfk pmkI_f_marks (by decide) (by decide) (by decide) (by decide)
      have pomI_f_oneMind := omI.fr hfk pomI_f_oneMind (by decide) (by decide) (by decide) (by decide) (by decide) (by decide) (by decide) (by decide)
      have pstI_f_states := stI.fr hfk pstI_f_states (by decide) (by decide) (by decide) (by decide) (by decide) (by decide) (by decide) (by decide) (by decide)
      have hfr := hfr.tr hfk (by simp)
      have hq445 := hlk
      have hq446 := hsk
      have hf_threads := hNf_threads
      have hf_spans := hNf_spans
      have hwk_t := hNwk_t
      have hnw2408 := hNnw2408
      have htn2409 := hNtn2409
      have hnsp2410 := hNnsp2410
      have htsp2411 := hNtsp2411
      have hse_t := hNse_t
      have hstk_t := hNstk_t
      change ab_W _ _ _ G377 24 [some (vR w_), some (vR q), some (vz hw), some (vz mch), some (vz p)] [vz r430] _
      have pthI_f_threads : thI o G377 f_threads st2421 := ⟨wk_t, nw2408, tn2409, nsp2410, tsp2411, se_t, stk_t, nc2416, tc2417, sta2418, fo2419, hw, fy2420, WK2428, NW2422, TN2423, NS2424, TS2425, SE2426, SK2427, m1412, m2_413, m3414, m4415, vR f_spans, vR q, vR f_subject, hf_threads, hwk_t, hnw2408, htn2409, hnsp2410, htsp2411, hse_t, hstk_t, (by omega), hq434, (by omega), (by omega)⟩
      have hmq_ : onq mi on := hmi
      have ppgB_q : pgB o G377 q lq nr cv cmp on mi sz := ⟨ki, ne, ot, cnt, fi, la, ra, ru, gr, wi, fl, ve, na, nl, K, N, O, RR, NA, NL, hq, hki, hne, hot, hra, hna, hnl, (by omega), hpu, hp, hr, hch, (by omega), (by omega), (by omega), (by omega), (by omega), hpo, hmq_, (by omega), (by omega), jnl, hiv, hmn, jna, hla, hpv, (by omega), hkk, hoc, (by omega)⟩
      have psuI_f_subject : suI o G377 f_subject n m f := ⟨by_, co, re, ho, C, Rs, H, mc, hf_subject, hby_, hco, hre, hho, (by omega), hsu⟩
      refine zz_iret rfl d_PW_run_24 ?_
      rw [hQ]; exact ⟨_, _, _, _, _, _, _, _, _, _, _, _, _, rfl, hfr, hf_spans, pthI_f_threads, pmkI_f_marks, pomI_f_oneMind, pstI_f_states, psuI_f_subject, ppgB_q, (by exact rnY_t hmv_ hpm_.wp hsu.1 hq435 (by omega) hiv (by omega) (by omega) hq436 (by omega)), (by omega), (by omega), (by omega), (by exact hq433), (by omega), (by omega), (by first | exact Or.inl rfl | exact Or.inl rfl)⟩
set_option maxRecDepth 100000 in
set_option maxHeartbeats 4000000 in
theorem z_PW_settle {X : ab_X} {d : Nat} {o : Nat → Nat} {G : ab_G} {w_ : Nat} {f_ready : Nat} {f_tape : Nat} {f_reader : Nat} {f_programs : Nat} {f_subject : Nat} {f_spans : Nat} {f_threads : Nat} {f_marks : Nat} {f_oneMind : Nat} {f_states : Nat} {f_latest : Nat} {f_matches : Nat} {f_pieces : Nat} {f_template : Nat} {f_result : Nat} {f_spare : Nat} {cmp : Int} {ovs : Int} {sb : Int} {cv : Int → Int} {on : Nat} {nm : Nat} {ns : Nat} {nt : Nat} {n : Int} {m : Nat} {f : Int → Int} {z1 : Int} {z2 : Int} {stt : Int} {stm : Int} {sto : Int} {sts : Int} (hw_ : cc o G w_ 18 (ab_ob 0 [vR f_ready, vR f_tape, vR f_reader, vR f_programs, vR f_subject, vR f_spans, vR f_threads, vR f_marks, vR f_oneMind, vR f_states, vR f_latest, vR f_matches, vR f_pieces, vR f_template, vR f_result, vR f_spare, vz cmp, vz ovs])) (pthI_f_threads : thI o G f_threads stt) (pmkI_f_marks : mkI o G f_marks nm ns stm) (pomI_f_oneMind : omI o G f_oneMind on nt sto) (pstI_f_states : stI o G f_states cv cmp sts sb) (psuI_f_subject : suI o G f_subject n m f) (n18 : ab_n0 = 18) (cz : 0 ≤ z1 ∧ z1 ≤ 100000 ∧ 0 ≤ z2 ∧ z2 ≤ 100000) (cmo : stt + stm + sto + sts ≤ 400 * (z1 + 20) * (n + 20) * (z2 + 1)) (hd : 1 ≤ d) : ab_F X d y_PW_settle (.code y_PW_settle b_PW_settle 7 none) [vR w_, vz z1, vz z2] G (fun oc G2 => oc = .returned none ∧ fx o o [18, 32, 44, 50, 60] G G2 ∧ G2.length = G.length ∧ ab_slots G2 = ab_slots G ∧ cc o G2 w_ 18 (ab_ob 0 [vR f_ready, vR f_tape, vR f_reader, vR f_programs, vR f_subject, vR f_spans, vR f_threads, vR f_marks, vR f_oneMind, vR f_states, vR f_latest, vR f_matches, vR f_pieces, vR f_template, vR f_result, vR f_spare, vz cmp, vz ovs]) ∧ thI o G2 f_threads 0 ∧ mkI o G2 f_marks nm ns 0 ∧ omI o G2 f_oneMind on nt 0 ∧ stI o G2 f_states cv cmp 0 sb ∧ suI o G2 f_subject n m f) := by
  refine ab_F_of (by decide +kernel) (Nat.le_of_ble_eq_true rfl) ?_
  obtain ⟨Q, hQ⟩ : ∃ z : Outcome → ab_G → Prop, z = (fun oc G2 => oc = .returned none ∧ fx o o [18, 32, 44, 50, 60] G G2 ∧ G2.length = G.length ∧ ab_slots G2 = ab_slots G ∧ cc o G2 w_ 18 (ab_ob 0 [vR f_ready, vR f_tape, vR f_reader, vR f_programs, vR f_subject, vR f_spans, vR f_threads, vR f_marks, vR f_oneMind, vR f_states, vR f_latest, vR f_matches, vR f_pieces, vR f_template, vR f_result, vR f_spare, vz cmp, vz ovs]) ∧ thI o G2 f_threads 0 ∧ mkI o G2 f_marks nm ns 0 ∧ omI o G2 f_oneMind on nt 0 ∧ stI o G2 f_states cv cmp 0 sb ∧ suI o G2 f_subject n m f) := ⟨_, rfl⟩
  rw [← hQ]
  change ab_W X (ab_pl y_PW_settle b_PW_settle 7 none) d G 0 [some (vR w_), some (vz z1), some (vz z2), none, none, none, none] [] Q
  have hfr : fx o o [18, 32, 44, 50, 60] G G := fx.rf
  have hlen : G.length = G.length := rfl
  have hsl : ab_slots G = ab_slots G := rfl
  obtain ⟨by_, co, re, ho, C, Rs, H, mc, hf_subject, hby_, hco, hre, hho, csu, hsu⟩ := psuI_f_subject
  obtain ⟨wk_t, nw_t, tn_t, nsp_t, tsp_t, se_t, stk_t, nc_t, tc_t, sta_t, fo_t, hw_t, fy_t, WK_t, NW_t, TN_t, NS_t, TS_t, SE_t, SK_t, l1_t, l2_t, l3_t, l4_t, sp0_t, q0_t, s0_t, hf_threads, hwk_t, hnw_t, htn_t, hnsp_t, htsp_t, hse_t, hstk_t, cl_t, jse_t, cst_t, cst0_t⟩ := pthI_f_threads
  obtain ⟨wk_k, mk_k, stk_k, w_k, df_k, dp_k, fo_k, fy_k, hw_k, WK_k, M_k, SK_k, sp0_k, q0_k, s0_k, hf_marks, hwk_k, hmk_k, hstk_k, cn_k, hst_k, cfo_k, cst0_k⟩ := pmkI_f_marks
  obtain ⟨wk_o, onw_o, tkn_o, se__o, cle_o, stk_o, dp_o, fo_o, chn_o, hw_o, fy_o, WK_o, ON_o, SK_o, sp0_o, q0_o, s0_o, SE_o, CL_o, ct_o, P_o, nk_o, hf_oneMind, hwk_o, honw_o, hse__o, hcle_o, hstk_o, pcsI_tkn_o, hon_o, hnt_o, cst0_o⟩ := pomI_f_oneMind
  obtain ⟨cu_s, eg_s, po_s, bg_s, bd_s, sd_s, se__s, stk_s, mst_s, q0_s, vr_s, ro_s, cn_s, ct_s, sc_s, sta_s, arv_s, CU_s, EG_s, PO_s, BG_s, BD_s, SD_s, SE_s, SK_s, hf_states, hcu_s, heg_s, hpo_s, hbg_s, hbd_s, hsd_s, hse__s, hstk_s, jcu_s, ccn_s, cms_s, cvr_s, jbg_s, jpo_s, jbd_s, jeg_s, cro_s, cst0_s, jse_s, csb_s, jsq_s⟩ := pstI_f_states
  refine zz_ldc2 400 d_PW_settle_0 cn_PW_253 ?_
  refine ab_iload_n d_PW_settle_3 rfl ?_
  refine zz_bipush d_PW_settle_4 (by decide) ?_
  refine zz_iadd d_PW_settle_6 ?_
  refine zz_i2l d_PW_settle_7 (by omega) ?_
  refine zz_lmul d_PW_settle_8 ?_
  refine ab_aload_n d_PW_settle_9 rfl ?_
  refine ab_getf (fs := [vR f_ready, vR f_tape, vR f_reader, vR f_programs, vR f_subject, vR f_spans, vR f_threads, vR f_marks, vR f_oneMind, vR f_states, vR f_latest, vR f_matches, vR f_pieces, vR f_template, vR f_result, vR f_spare, vz cmp, vz ovs]) f_PW_38 d_PW_settle_10 hw_.2.2 rfl ?_
  refine ab_getf (fs := [vR by_, vR co, vR re, vR ho, vz n]) f_PW_164 d_PW_settle_13 hf_subject.2.2 rfl ?_
  refine zz_bipush d_PW_settle_16 (by decide) ?_
  refine zz_iadd d_PW_settle_18 ?_
  refine zz_i2l d_PW_settle_19 (by omega) ?_
  refine zz_lmul d_PW_settle_20 ?_
  obtain ⟨v1, hv1⟩ : ∃ z : Int, z = (400 * (z1 + 20)) * (n + 20) := ⟨_, rfl⟩
  rw [← hv1]
  have hv1b := z_mulb (a := (400 * (z1 + 20))) (b := (n + 20)) (A := 40008000) (B := 2020) (by omega) (by omega)
  rw [← hv1] at hv1b
  change ab_W _ _ _ G 21 [some (vR w_), some (vz z1), some (vz z2), none, none, none, none] [vj v1] _
  refine ab_iload_n d_PW_settle_21 rfl ?_
  refine zz_iconst d_PW_settle_22 ?_
  refine zz_iadd d_PW_settle_23 ?_
  refine zz_i2l d_PW_settle_24 (by omega) ?_
  refine zz_lmul d_PW_settle_25 ?_
  obtain ⟨v2, hv2⟩ : ∃ z : Int, z = v1 * (z2 + 1) := ⟨_, rfl⟩
  rw [← hv2]
  have hv2b := z_mulb (a := v1) (b := (z2 + 1)) (A := 80816160000) (B := 100001) (by omega) (by omega)
  rw [← hv2] at hv2b
  change ab_W _ _ _ G 26 [some (vR w_), some (vz z1), some (vz z2), none, none, none, none] [vj v2] _
  refine ab_lstore_n d_PW_settle_26 (Nat.le_of_ble_eq_true rfl) (Nat.le_of_ble_eq_true rfl) rfl ?_
  change ab_W _ _ _ G 27 [some (vR w_), some (vz z1), some (vz z2), some (vj v2), none, none, none] [] _
  refine ab_aload_n d_PW_settle_27 rfl ?_
  refine ab_getf (fs := [vR f_ready, vR f_tape, vR f_reader, vR f_programs, vR f_subject, vR f_spans, vR f_threads, vR f_marks, vR f_oneMind, vR f_states, vR f_latest, vR f_matches, vR f_pieces, vR f_template, vR f_result, vR f_spare, vz cmp, vz ovs]) f_PW_48 d_PW_settle_28 hw_.2.2 rfl ?_
  refine ab_getf (fs := [sp0_t, vR wk_t, vR nw_t, vR tn_t, vR nsp_t, vR tsp_t, vz nc_t, vz tc_t, vR se_t, vz sta_t, vR stk_t, vz fo_t, q0_t, s0_t, vz hw_t, vz fy_t, vj stt]) f_PW_255 d_PW_settle_31 hf_threads.2.2 rfl ?_
  refine ab_aload_n d_PW_settle_34 rfl ?_
  refine ab_getf (fs := [vR f_ready, vR f_tape, vR f_reader, vR f_programs, vR f_subject, vR f_spans, vR f_threads, vR f_marks, vR f_oneMind, vR f_states, vR f_latest, vR f_matches, vR f_pieces, vR f_template, vR f_result, vR f_spare, vz cmp, vz ovs]) f_PW_55 d_PW_settle_35 hw_.2.2 rfl ?_
  refine ab_getf (fs := [sp0_k, vR wk_k, vR mk_k, vz w_k, vz df_k, vR stk_k, vz dp_k, vz fo_k, vz fy_k, vz hw_k, q0_k, s0_k, vj stm]) f_PW_259 d_PW_settle_38 hf_marks.2.2 rfl ?_
  refine zz_ladd d_PW_settle_41 ?_
  refine ab_aload_n d_PW_settle_42 rfl ?_
  refine ab_getf (fs := [vR f_ready, vR f_tape, vR f_reader, vR f_programs, vR f_subject, vR f_spans, vR f_threads, vR f_marks, vR f_oneMind, vR f_states, vR f_latest, vR f_matches, vR f_pieces, vR f_template, vR f_result, vR f_spare, vz cmp, vz ovs]) f_PW_62 d_PW_settle_43 hw_.2.2 rfl ?_
  refine ab_getf (fs := [sp0_o, vR wk_o, vR onw_o, vR tkn_o, vR se__o, vR cle_o, vR stk_o, vz dp_o, vz fo_o, vz chn_o, q0_o, s0_o, vz hw_o, vz fy_o, vj sto]) f_PW_260 d_PW_settle_46 hf_oneMind.2.2 rfl ?_
  refine zz_ladd d_PW_settle_49 ?_
  refine ab_aload_n d_PW_settle_50 rfl ?_
  refine ab_getf (fs := [vR f_ready, vR f_tape, vR f_reader, vR f_programs, vR f_subject, vR f_spans, vR f_threads, vR f_marks, vR f_oneMind, vR f_states, vR f_latest, vR f_matches, vR f_pieces, vR f_template, vR f_result, vR f_spare, vz cmp, vz ovs]) f_PW_69 d_PW_settle_51 hw_.2.2 rfl ?_
  refine ab_getf (fs := [vz mst_s, q0_s, vz vr_s, vz ro_s, vR cu_s, vz cn_s, vR eg_s, vR po_s, vR bg_s, vR bd_s, vz ct_s, vR sd_s, vz sc_s, vR se__s, vz sta_s, vR stk_s, vz arv_s, vj sts]) f_PW_261 d_PW_settle_54 hf_states.2.2 rfl ?_
  refine zz_ladd d_PW_settle_57 ?_
  refine ab_lstore d_PW_settle_58 (Nat.le_of_ble_eq_true rfl) (Nat.le_of_ble_eq_true rfl) rfl ?_
  change ab_W _ _ _ G 60 [some (vR w_), some (vz z1), some (vz z2), some (vj v2), none, some (vj (((stt + stm) + sto) + sts)), none] [] _
  refine ab_lload d_PW_settle_60 rfl ?_
  refine ab_lload_n d_PW_settle_62 rfl ?_
  have hmo_ : stt + stm + sto + sts ≤ v2 := by rw [hv2, hv1]; exact cmo
  refine zz_lcmp d_PW_settle_63 (by omega) (by omega) (fun c3a => ?_) (fun c3a c3b => ?_) (fun c3a => by exfalso; omega)
  · refine zz_if_le (tgt := 77) d_PW_settle_64 (by decide) (by decide) (fun c4 => ?_) (fun c4 => absurd c4 (by decide))
    refine ab_aload_n d_PW_settle_77 rfl ?_
    refine ab_getf (fs := [vR f_ready, vR f_tape, vR f_reader, vR f_programs, vR f_subject, vR f_spans, vR f_threads, vR f_marks, vR f_oneMind, vR f_states, vR f_latest, vR f_matches, vR f_pieces, vR f_template, vR f_result, vR f_spare, vz cmp, vz ovs]) f_PW_48 d_PW_settle_78 hw_.2.2 rfl ?_
    refine zz_lconst d_PW_settle_81 ?_
    change ab_W _ _ _ G 82 [some (vR w_), some (vz z1), some (vz z2), some (vj v2), none, some (vj (((stt + stm) + sto) + sts)), none] [vj 0, vR f_threads] _
    refine ab_putf (fs := [sp0_t, vR wk_t, vR nw_t, vR tn_t, vR nsp_t, vR tsp_t, vz nc_t, vz tc_t, vR se_t, vz sta_t, vR stk_t, vz fo_t, q0_t, s0_t, vz hw_t, vz fy_t, vj stt]) f_PW_255 (Or.inl rfl) d_PW_settle_82 hf_threads.2.2 (Nat.le_of_ble_eq_true rfl) (fun _ => ⟨rfl, rfl⟩) (hf_threads.2.1 (by decide)) ?_
    obtain ⟨G5, eG5⟩ : ∃ z : ab_G, z = List.set G f_threads (ab_ob 11 [sp0_t, vR wk_t, vR nw_t, vR tn_t, vR nsp_t, vR tsp_t, vz nc_t, vz tc_t, vR se_t, vz sta_t, vR stk_t, vz fo_t, q0_t, s0_t, vz hw_t, vz fy_t, vj 0]) := ⟨_, rfl⟩
    have hw_ := hw_.keep hf_threads eG5 (by decide)
    have hf_subject := hf_subject.keep hf_threads eG5 (by decide)
    have hby_ := hby_.keep hf_threads eG5 (by decide)
    have hco := hco.keep hf_threads eG5 (by decide)
    have hre := hre.keep hf_threads eG5 (by decide)
    have hho := hho.keep hf_threads eG5 (by decide)
    have hwk_t := hwk_t.keep hf_threads eG5 (by decide)
    have hnw_t := hnw_t.keep hf_threads eG5 (by omega)
    have htn_t := htn_t.keep hf_threads eG5 (by omega)
    have hnsp_t := hnsp_t.keep hf_threads eG5 (by omega)
    have htsp_t := htsp_t.keep hf_threads eG5 (by omega)
    have hse_t := hse_t.keep hf_threads eG5 (by decide)
    have hstk_t := hstk_t.keep hf_threads eG5 (by decide)
    have hf_marks := hf_marks.keep hf_threads eG5 (by decide)
    have hwk_k := hwk_k.keep hf_threads eG5 (by decide)
    have hmk_k := hmk_k.keep hf_threads eG5 (by decide)
    have hstk_k := hstk_k.keep hf_threads eG5 (by decide)
    have hf_oneMind := hf_oneMind.keep hf_threads eG5 (by decide)
    have hwk_o := hwk_o.keep hf_threads eG5 (by decide)
    have honw_o := honw_o.keep hf_threads eG5 (by decide)
    have hse__o := hse__o.keep hf_threads eG5 (by decide)
    have hcle_o := hcle_o.keep hf_threads eG5 (by decide)
    have hstk_o := hstk_o.keep hf_threads eG5 (by decide)
    have hf_states := hf_states.keep hf_threads eG5 (by decide)
    have hcu_s := hcu_s.keep hf_threads eG5 (by decide)
    have heg_s := heg_s.keep hf_threads eG5 (by decide)
    have hpo_s := hpo_s.keep hf_threads eG5 (by decide)
    have hbg_s := hbg_s.keep hf_threads eG5 (by decide)
    have hbd_s := hbd_s.keep hf_threads eG5 (by decide)
    have hsd_s := hsd_s.keep hf_threads eG5 (by decide)
    have hse__s := hse__s.keep hf_threads eG5 (by decide)
    have hstk_s := hstk_s.keep hf_threads eG5 (by decide)
    have hst := (fx.rf (o := o) (S := [32]) (G := G)).wr hf_threads eG5 (List.mem_singleton.mpr rfl)
    have pcsI_tkn_o := csI.fr hst pcsI_tkn_o (by decide) (by decide)
    have hlen := (z_len eG5).trans hlen
    have hsl := (z_sl hf_threads eG5 rfl).trans hsl
    have hfr := hfr.wr hf_threads eG5 (by decide)
    have hf_threads := hf_threads.kept eG5
    change ab_W _ _ _ (List.set G f_threads (ab_ob 11 [sp0_t, vR wk_t, vR nw_t, vR tn_t, vR nsp_t, vR tsp_t, vz nc_t, vz tc_t, vR se_t, vz sta_t, vR stk_t, vz fo_t, q0_t, s0_t, vz hw_t, vz fy_t, vj 0])) 85 [some (vR w_), some (vz z1), some (vz z2), some (vj v2), none, some (vj (((stt + stm) + sto) + sts)), none] [] _
    rw [← eG5]
    refine ab_aload_n d_PW_settle_85 rfl ?_
    refine ab_getf (fs := [vR f_ready, vR f_tape, vR f_reader, vR f_programs, vR f_subject, vR f_spans, vR f_threads, vR f_marks, vR f_oneMind, vR f_states, vR f_latest, vR f_matches, vR f_pieces, vR f_template, vR f_result, vR f_spare, vz cmp, vz ovs]) f_PW_55 d_PW_settle_86 hw_.2.2 rfl ?_
    refine zz_lconst d_PW_settle_89 ?_
    change ab_W _ _ _ G5 90 [some (vR w_), some (vz z1), some (vz z2), some (vj v2), none, some (vj (((stt + stm) + sto) + sts)), none] [vj 0, vR f_marks] _
    refine ab_putf (fs := [sp0_k, vR wk_k, vR mk_k, vz w_k, vz df_k, vR stk_k, vz dp_k, vz fo_k, vz fy_k, vz hw_k, q0_k, s0_k, vj stm]) f_PW_259 (Or.inl rfl) d_PW_settle_90 hf_marks.2.2 (Nat.le_of_ble_eq_true rfl) (fun _ => ⟨rfl, rfl⟩) (hf_marks.2.1 (by decide)) ?_
    obtain ⟨G6, eG6⟩ : ∃ z : ab_G, z = List.set G5 f_marks (ab_ob 2 [sp0_k, vR wk_k, vR mk_k, vz w_k, vz df_k, vR stk_k, vz dp_k, vz fo_k, vz fy_k, vz hw_k, q0_k, s0_k, vj 0]) := ⟨_, rfl⟩
    have hw_ := hw_.keep hf_marks eG6 (by decide)
    have hf_subject := hf_subject.keep hf_marks eG6 (by decide)
    have hby_ := hby_.keep hf_marks eG6 (by decide)
    have hco := hco.keep hf_marks eG6 (by decide)
    have hre := hre.keep hf_marks eG6 (by decide)
    have hho := hho.keep hf_marks eG6 (by decide)
    have hf_threads := hf_threads.keep hf_marks eG6 (by decide)
    have hwk_t := hwk_t.keep hf_marks eG6 (by decide)
    have hnw_t := hnw_t.keep hf_marks eG6 (by omega)
    have htn_t := htn_t.keep hf_marks eG6 (by omega)
    have hnsp_t := hnsp_t.keep hf_marks eG6 (by omega)
    have htsp_t := htsp_t.keep hf_marks eG6 (by omega)
    have hse_t := hse_t.keep hf_marks eG6 (by decide)
    have hstk_t := hstk_t.keep hf_marks eG6 (by decide)
    have hwk_k := hwk_k.keep hf_marks eG6 (by decide)
    have hmk_k := hmk_k.keep hf_marks eG6 (by decide)
    have hstk_k := hstk_k.keep hf_marks eG6 (by decide)
    have hf_oneMind := hf_oneMind.keep hf_marks eG6 (by decide)
    have hwk_o := hwk_o.keep hf_marks eG6 (by decide)
    have honw_o := honw_o.keep hf_marks eG6 (by decide)
    have hse__o := hse__o.keep hf_marks eG6 (by decide)
    have hcle_o := hcle_o.keep hf_marks eG6 (by decide)
    have hstk_o := hstk_o.keep hf_marks eG6 (by decide)
    have hf_states := hf_states.keep hf_marks eG6 (by decide)
    have hcu_s := hcu_s.keep hf_marks eG6 (by decide)
    have heg_s := heg_s.keep hf_marks eG6 (by decide)
    have hpo_s := hpo_s.keep hf_marks eG6 (by decide)
    have hbg_s := hbg_s.keep hf_marks eG6 (by decide)
    have hbd_s := hbd_s.keep hf_marks eG6 (by decide)
    have hsd_s := hsd_s.keep hf_marks eG6 (by decide)
    have hse__s := hse__s.keep hf_marks eG6 (by decide)
    have hstk_s := hstk_s.keep hf_marks eG6 (by decide)
    have hst := (fx.rf (o := o) (S := [44]) (G := G5)).wr hf_marks eG6 (List.mem_singleton.mpr rfl)
    have pcsI_tkn_o := csI.fr hst pcsI_tkn_o (by decide) (by decide)
    have hlen := (z_len eG6).trans hlen
    have hsl := (z_sl hf_marks eG6 rfl).trans hsl
    have hfr := hfr.wr hf_marks eG6 (by decide)
    have hf_marks := hf_marks.kept eG6
    change ab_W _ _ _ (List.set G5 f_marks (ab_ob 2 [sp0_k, vR wk_k, vR mk_k, vz w_k, vz df_k, vR stk_k, vz dp_k, vz fo_k, vz fy_k, vz hw_k, q0_k, s0_k, vj 0])) 93 [some (vR w_), some (vz z1), some (vz z2), some (vj v2), none, some (vj (((stt + stm) + sto) + sts)), none] [] _
    rw [← eG6]
    refine ab_aload_n d_PW_settle_93 rfl ?_
    refine ab_getf (fs := [vR f_ready, vR f_tape, vR f_reader, vR f_programs, vR f_subject, vR f_spans, vR f_threads, vR f_marks, vR f_oneMind, vR f_states, vR f_latest, vR f_matches, vR f_pieces, vR f_template, vR f_result, vR f_spare, vz cmp, vz ovs]) f_PW_62 d_PW_settle_94 hw_.2.2 rfl ?_
    refine zz_lconst d_PW_settle_97 ?_
    change ab_W _ _ _ G6 98 [some (vR w_), some (vz z1), some (vz z2), some (vj v2), none, some (vj (((stt + stm) + sto) + sts)), none] [vj 0, vR f_oneMind] _
    refine ab_putf (fs := [sp0_o, vR wk_o, vR onw_o, vR tkn_o, vR se__o, vR cle_o, vR stk_o, vz dp_o, vz fo_o, vz chn_o, q0_o, s0_o, vz hw_o, vz fy_o, vj sto]) f_PW_260 (Or.inl rfl) d_PW_settle_98 hf_oneMind.2.2 (Nat.le_of_ble_eq_true rfl) (fun _ => ⟨rfl, rfl⟩) (hf_oneMind.2.1 (by decide)) ?_
    obtain ⟨G7, eG7⟩ : ∃ z : ab_G, z = List.set G6 f_oneMind (ab_ob 3 [sp0_o, vR wk_o, vR onw_o, vR tkn_o, vR se__o, vR cle_o, vR stk_o, vz dp_o, vz fo_o, vz chn_o, q0_o, s0_o, vz hw_o, vz fy_o, vj 0]) := ⟨_, rfl⟩
    have hw_ := hw_.keep hf_oneMind eG7 (by decide)
    have hf_subject := hf_subject.keep hf_oneMind eG7 (by decide)
    have hby_ := hby_.keep hf_oneMind eG7 (by decide)
    have hco := hco.keep hf_oneMind eG7 (by decide)
    have hre := hre.keep hf_oneMind eG7 (by decide)
    have hho := hho.keep hf_oneMind eG7 (by decide)
    have hf_threads := hf_threads.keep hf_oneMind eG7 (by decide)
    have hwk_t := hwk_t.keep hf_oneMind eG7 (by decide)
    have hnw_t := hnw_t.keep hf_oneMind eG7 (by omega)
    have htn_t := htn_t.keep hf_oneMind eG7 (by omega)
    have hnsp_t := hnsp_t.keep hf_oneMind eG7 (by omega)
    have htsp_t := htsp_t.keep hf_oneMind eG7 (by omega)
    have hse_t := hse_t.keep hf_oneMind eG7 (by decide)
    have hstk_t := hstk_t.keep hf_oneMind eG7 (by decide)
    have hf_marks := hf_marks.keep hf_oneMind eG7 (by decide)
    have hwk_k := hwk_k.keep hf_oneMind eG7 (by decide)
    have hmk_k := hmk_k.keep hf_oneMind eG7 (by decide)
    have hstk_k := hstk_k.keep hf_oneMind eG7 (by decide)
    have hwk_o := hwk_o.keep hf_oneMind eG7 (by decide)
    have honw_o := honw_o.keep hf_oneMind eG7 (by decide)
    have hse__o := hse__o.keep hf_oneMind eG7 (by decide)
    have hcle_o := hcle_o.keep hf_oneMind eG7 (by decide)
    have hstk_o := hstk_o.keep hf_oneMind eG7 (by decide)
    have hf_states := hf_states.keep hf_oneMind eG7 (by decide)
    have hcu_s := hcu_s.keep hf_oneMind eG7 (by decide)
    have heg_s := heg_s.keep hf_oneMind eG7 (by decide)
    have hpo_s := hpo_s.keep hf_oneMind eG7 (by decide)
    have hbg_s := hbg_s.keep hf_oneMind eG7 (by decide)
    have hbd_s := hbd_s.keep hf_oneMind eG7 (by decide)
    have hsd_s := hsd_s.keep hf_oneMind eG7 (by decide)
    have hse__s := hse__s.keep hf_oneMind eG7 (by decide)
    have hstk_s := hstk_s.keep hf_oneMind eG7 (by decide)
    have hst := (fx.rf (o := o) (S := [50]) (G := G6)).wr hf_oneMind eG7 (List.mem_singleton.mpr rfl)
    have pcsI_tkn_o := csI.fr hst pcsI_tkn_o (by decide) (by decide)
    have hlen := (z_len eG7).trans hlen
    have hsl := (z_sl hf_oneMind eG7 rfl).trans hsl
    have hfr := hfr.wr hf_oneMind eG7 (by decide)
    have hf_oneMind := hf_oneMind.kept eG7
    change ab_W _ _ _ (List.set G6 f_oneMind (ab_ob 3 [sp0_o, vR wk_o, vR onw_o, vR tkn_o, vR se__o, vR cle_o, vR stk_o, vz dp_o, vz fo_o, vz chn_o, q0_o, s0_o, vz hw_o, vz fy_o, vj 0])) 101 [some (vR w_), some (vz z1), some (vz z2), some (vj v2), none, some (vj (((stt + stm) + sto) + sts)), none] [] _
    rw [← eG7]
    refine ab_aload_n d_PW_settle_101 rfl ?_
    refine ab_getf (fs := [vR f_ready, vR f_tape, vR f_reader, vR f_programs, vR f_subject, vR f_spans, vR f_threads, vR f_marks, vR f_oneMind, vR f_states, vR f_latest, vR f_matches, vR f_pieces, vR f_template, vR f_result, vR f_spare, vz cmp, vz ovs]) f_PW_69 d_PW_settle_102 hw_.2.2 rfl ?_
    refine zz_lconst d_PW_settle_105 ?_
    change ab_W _ _ _ G7 106 [some (vR w_), some (vz z1), some (vz z2), some (vj v2), none, some (vj (((stt + stm) + sto) + sts)), none] [vj 0, vR f_states] _
    refine ab_putf (fs := [vz mst_s, q0_s, vz vr_s, vz ro_s, vR cu_s, vz cn_s, vR eg_s, vR po_s, vR bg_s, vR bd_s, vz ct_s, vR sd_s, vz sc_s, vR se__s, vz sta_s, vR stk_s, vz arv_s, vj sts]) f_PW_261 (Or.inl rfl) d_PW_settle_106 hf_states.2.2 (Nat.le_of_ble_eq_true rfl) (fun _ => ⟨rfl, rfl⟩) (hf_states.2.1 (by decide)) ?_
    obtain ⟨G8, eG8⟩ : ∃ z : ab_G, z = List.set G7 f_states (ab_ob 8 [vz mst_s, q0_s, vz vr_s, vz ro_s, vR cu_s, vz cn_s, vR eg_s, vR po_s, vR bg_s, vR bd_s, vz ct_s, vR sd_s, vz sc_s, vR se__s, vz sta_s, vR stk_s, vz arv_s, vj 0]) := ⟨_, rfl⟩
    have hw_ := hw_.keep hf_states eG8 (by decide)
    have hf_subject := hf_subject.keep hf_states eG8 (by decide)
    have hby_ := hby_.keep hf_states eG8 (by decide)
    have hco := hco.keep hf_states eG8 (by decide)
    have hre := hre.keep hf_states eG8 (by decide)
    have hho := hho.keep hf_states eG8 (by decide)
    have hf_threads := hf_threads.keep hf_states eG8 (by decide)
    have hwk_t := hwk_t.keep hf_states eG8 (by decide)
    have hnw_t := hnw_t.keep hf_states eG8 (by omega)
    have htn_t := htn_t.keep hf_states eG8 (by omega)
    have hnsp_t := hnsp_t.keep hf_states eG8 (by omega)
    have htsp_t := htsp_t.keep hf_states eG8 (by omega)
    have hse_t := hse_t.keep hf_states eG8 (by decide)
    have hstk_t := hstk_t.keep hf_states eG8 (by decide)
    have hf_marks := hf_marks.keep hf_states eG8 (by decide)
    have hwk_k := hwk_k.keep hf_states eG8 (by decide)
    have hmk_k := hmk_k.keep hf_states eG8 (by decide)
    have hstk_k := hstk_k.keep hf_states eG8 (by decide)
    have hf_oneMind := hf_oneMind.keep hf_states eG8 (by decide)
    have hwk_o := hwk_o.keep hf_states eG8 (by decide)
    have honw_o := honw_o.keep hf_states eG8 (by decide)
    have hse__o := hse__o.keep hf_states eG8 (by decide)
    have hcle_o := hcle_o.keep hf_states eG8 (by decide)
    have hstk_o := hstk_o.keep hf_states eG8 (by decide)
    have hcu_s := hcu_s.keep hf_states eG8 (by decide)
    have heg_s := heg_s.keep hf_states eG8 (by decide)
    have hpo_s := hpo_s.keep hf_states eG8 (by decide)
    have hbg_s := hbg_s.keep hf_states eG8 (by decide)
    have hbd_s := hbd_s.keep hf_states eG8 (by decide)
    have hsd_s := hsd_s.keep hf_states eG8 (by decide)
    have hse__s := hse__s.keep hf_states eG8 (by decide)
    have hstk_s := hstk_s.keep hf_states eG8 (by decide)
    have hst := (fx.rf (o := o) (S := [60]) (G := G7)).wr hf_states eG8 (List.mem_singleton.mpr rfl)
    have pcsI_tkn_o := csI.fr hst pcsI_tkn_o (by decide) (by decide)
    have hlen := (z_len eG8).trans hlen
    have hsl := (z_sl hf_states eG8 rfl).trans hsl
    have hfr := hfr.wr hf_states eG8 (by decide)
    have hf_states := hf_states.kept eG8
    change ab_W _ _ _ (List.set G7 f_states (ab_ob 8 [vz mst_s, q0_s, vz vr_s, vz ro_s, vR cu_s, vz cn_s, vR eg_s, vR po_s, vR bg_s, vR bd_s, vz ct_s, vR sd_s, vz sc_s, vR se__s, vz sta_s, vR stk_s, vz arv_s, vj 0])) 109 [some (vR w_), some (vz z1), some (vz z2), some (vj v2), none, some (vj (((stt + stm) + sto) + sts)), none] [] _
    rw [← eG8]
    have psuI_f_subject : suI o G8 f_subject n m f := ⟨by_, co, re, ho, C, Rs, H, mc, hf_subject, hby_, hco, hre, hho, (by omega), hsu⟩
    have pthI_f_threads : thI o G8 f_threads 0 := ⟨wk_t, nw_t, tn_t, nsp_t, tsp_t, se_t, stk_t, nc_t, tc_t, sta_t, fo_t, hw_t, fy_t, WK_t, NW_t, TN_t, NS_t, TS_t, SE_t, SK_t, l1_t, l2_t, l3_t, l4_t, sp0_t, q0_t, s0_t, hf_threads, hwk_t, hnw_t, htn_t, hnsp_t, htsp_t, hse_t, hstk_t, (by omega), jse_t, (by omega), (by omega)⟩
    have pmkI_f_marks : mkI o G8 f_marks nm ns 0 := ⟨wk_k, mk_k, stk_k, w_k, df_k, dp_k, fo_k, fy_k, hw_k, WK_k, M_k, SK_k, sp0_k, q0_k, s0_k, hf_marks, hwk_k, hmk_k, hstk_k, (by omega), hst_k, (by omega), (by omega)⟩
    have pomI_f_oneMind : omI o G8 f_oneMind on nt 0 := ⟨wk_o, onw_o, tkn_o, se__o, cle_o, stk_o, dp_o, fo_o, chn_o, hw_o, fy_o, WK_o, ON_o, SK_o, sp0_o, q0_o, s0_o, SE_o, CL_o, ct_o, P_o, nk_o, hf_oneMind, hwk_o, honw_o, hse__o, hcle_o, hstk_o, pcsI_tkn_o, hon_o, (by omega), (by omega)⟩
    have pstI_f_states : stI o G8 f_states cv cmp 0 sb := ⟨cu_s, eg_s, po_s, bg_s, bd_s, sd_s, se__s, stk_s, mst_s, q0_s, vr_s, ro_s, cn_s, ct_s, sc_s, sta_s, arv_s, CU_s, EG_s, PO_s, BG_s, BD_s, SD_s, SE_s, SK_s, hf_states, hcu_s, heg_s, hpo_s, hbg_s, hbd_s, hsd_s, hse__s, hstk_s, jcu_s, (by omega), (by omega), (by omega), jbg_s, jpo_s, jbd_s, jeg_s, (by omega), (by omega), jse_s, (by omega), jsq_s⟩
    refine ab_vret rfl d_PW_settle_109 ?_
    rw [hQ]; exact ⟨rfl, hfr, hlen, hsl, hw_, pthI_f_threads, pmkI_f_marks, pomI_f_oneMind, pstI_f_states, psuI_f_subject⟩
  · refine zz_if_le (tgt := 77) d_PW_settle_64 (by decide) (by decide) (fun c9 => ?_) (fun c9 => absurd c9 (by decide))
    refine ab_aload_n d_PW_settle_77 rfl ?_
    refine ab_getf (fs := [vR f_ready, vR f_tape, vR f_reader, vR f_programs, vR f_subject, vR f_spans, vR f_threads, vR f_marks, vR f_oneMind, vR f_states, vR f_latest, vR f_matches, vR f_pieces, vR f_template, vR f_result, vR f_spare, vz cmp, vz ovs]) f_PW_48 d_PW_settle_78 hw_.2.2 rfl ?_
    refine zz_lconst d_PW_settle_81 ?_
    change ab_W _ _ _ G 82 [some (vR w_), some (vz z1), some (vz z2), some (vj v2), none, some (vj (((stt + stm) + sto) + sts)), none] [vj 0, vR f_threads] _
    refine ab_putf (fs := [sp0_t, vR wk_t, vR nw_t, vR tn_t, vR nsp_t, vR tsp_t, vz nc_t, vz tc_t, vR se_t, vz sta_t, vR stk_t, vz fo_t, q0_t, s0_t, vz hw_t, vz fy_t, vj stt]) f_PW_255 (Or.inl rfl) d_PW_settle_82 hf_threads.2.2 (Nat.le_of_ble_eq_true rfl) (fun _ => ⟨rfl, rfl⟩) (hf_threads.2.1 (by decide)) ?_
    obtain ⟨G10, eG10⟩ : ∃ z : ab_G, z = List.set G f_threads (ab_ob 11 [sp0_t, vR wk_t, vR nw_t, vR tn_t, vR nsp_t, vR tsp_t, vz nc_t, vz tc_t, vR se_t, vz sta_t, vR stk_t, vz fo_t, q0_t, s0_t, vz hw_t, vz fy_t, vj 0]) := ⟨_, rfl⟩
    have hw_ := hw_.keep hf_threads eG10 (by decide)
    have hf_subject := hf_subject.keep hf_threads eG10 (by decide)
    have hby_ := hby_.keep hf_threads eG10 (by decide)
    have hco := hco.keep hf_threads eG10 (by decide)
    have hre := hre.keep hf_threads eG10 (by decide)
    have hho := hho.keep hf_threads eG10 (by decide)
    have hwk_t := hwk_t.keep hf_threads eG10 (by decide)
    have hnw_t := hnw_t.keep hf_threads eG10 (by omega)
    have htn_t := htn_t.keep hf_threads eG10 (by omega)
    have hnsp_t := hnsp_t.keep hf_threads eG10 (by omega)
    have htsp_t := htsp_t.keep hf_threads eG10 (by omega)
    have hse_t := hse_t.keep hf_threads eG10 (by decide)
    have hstk_t := hstk_t.keep hf_threads eG10 (by decide)
    have hf_marks := hf_marks.keep hf_threads eG10 (by decide)
    have hwk_k := hwk_k.keep hf_threads eG10 (by decide)
    have hmk_k := hmk_k.keep hf_threads eG10 (by decide)
    have hstk_k := hstk_k.keep hf_threads eG10 (by decide)
    have hf_oneMind := hf_oneMind.keep hf_threads eG10 (by decide)
    have hwk_o := hwk_o.keep hf_threads eG10 (by decide)
    have honw_o := honw_o.keep hf_threads eG10 (by decide)
    have hse__o := hse__o.keep hf_threads eG10 (by decide)
    have hcle_o := hcle_o.keep hf_threads eG10 (by decide)
    have hstk_o := hstk_o.keep hf_threads eG10 (by decide)
    have hf_states := hf_states.keep hf_threads eG10 (by decide)
    have hcu_s := hcu_s.keep hf_threads eG10 (by decide)
    have heg_s := heg_s.keep hf_threads eG10 (by decide)
    have hpo_s := hpo_s.keep hf_threads eG10 (by decide)
    have hbg_s := hbg_s.keep hf_threads eG10 (by decide)
    have hbd_s := hbd_s.keep hf_threads eG10 (by decide)
    have hsd_s := hsd_s.keep hf_threads eG10 (by decide)
    have hse__s := hse__s.keep hf_threads eG10 (by decide)
    have hstk_s := hstk_s.keep hf_threads eG10 (by decide)
    have hst := (fx.rf (o := o) (S := [32]) (G := G)).wr hf_threads eG10 (List.mem_singleton.mpr rfl)
    have pcsI_tkn_o := csI.fr hst pcsI_tkn_o (by decide) (by decide)
    have hlen := (z_len eG10).trans hlen
    have hsl := (z_sl hf_threads eG10 rfl).trans hsl
    have hfr := hfr.wr hf_threads eG10 (by decide)
    have hf_threads := hf_threads.kept eG10
    change ab_W _ _ _ (List.set G f_threads (ab_ob 11 [sp0_t, vR wk_t, vR nw_t, vR tn_t, vR nsp_t, vR tsp_t, vz nc_t, vz tc_t, vR se_t, vz sta_t, vR stk_t, vz fo_t, q0_t, s0_t, vz hw_t, vz fy_t, vj 0])) 85 [some (vR w_), some (vz z1), some (vz z2), some (vj v2), none, some (vj (((stt + stm) + sto) + sts)), none] [] _
    rw [← eG10]
    refine ab_aload_n d_PW_settle_85 rfl ?_
    refine ab_getf (fs := [vR f_ready, vR f_tape, vR f_reader, vR f_programs, vR f_subject, vR f_spans, vR f_threads, vR f_marks, vR f_oneMind, vR f_states, vR f_latest, vR f_matches, vR f_pieces, vR f_template, vR f_result, vR f_spare, vz cmp, vz ovs]) f_PW_55 d_PW_settle_86 hw_.2.2 rfl ?_
    refine zz_lconst d_PW_settle_89 ?_
    change ab_W _ _ _ G10 90 [some (vR w_), some (vz z1), some (vz z2), some (vj v2), none, some (vj (((stt + stm) + sto) + sts)), none] [vj 0, vR f_marks] _
    refine ab_putf (fs := [sp0_k, vR wk_k, vR mk_k, vz w_k, vz df_k, vR stk_k, vz dp_k, vz fo_k, vz fy_k, vz hw_k, q0_k, s0_k, vj stm]) f_PW_259 (Or.inl rfl) d_PW_settle_90 hf_marks.2.2 (Nat.le_of_ble_eq_true rfl) (fun _ => ⟨rfl, rfl⟩) (hf_marks.2.1 (by decide)) ?_
    obtain ⟨G11, eG11⟩ : ∃ z : ab_G, z = List.set G10 f_marks (ab_ob 2 [sp0_k, vR wk_k, vR mk_k, vz w_k, vz df_k, vR stk_k, vz dp_k, vz fo_k, vz fy_k, vz hw_k, q0_k, s0_k, vj 0]) := ⟨_, rfl⟩
    have hw_ := hw_.keep hf_marks eG11 (by decide)
    have hf_subject := hf_subject.keep hf_marks eG11 (by decide)
    have hby_ := hby_.keep hf_marks eG11 (by decide)
    have hco := hco.keep hf_marks eG11 (by decide)
    have hre := hre.keep hf_marks eG11 (by decide)
    have hho := hho.keep hf_marks eG11 (by decide)
    have hf_threads := hf_threads.keep hf_marks eG11 (by decide)
    have hwk_t := hwk_t.keep hf_marks eG11 (by decide)
    have hnw_t := hnw_t.keep hf_marks eG11 (by omega)
    have htn_t := htn_t.keep hf_marks eG11 (by omega)
    have hnsp_t := hnsp_t.keep hf_marks eG11 (by omega)
    have htsp_t := htsp_t.keep hf_marks eG11 (by omega)
    have hse_t := hse_t.keep hf_marks eG11 (by decide)
    have hstk_t := hstk_t.keep hf_marks eG11 (by decide)
    have hwk_k := hwk_k.keep hf_marks eG11 (by decide)
    have hmk_k := hmk_k.keep hf_marks eG11 (by decide)
    have hstk_k := hstk_k.keep hf_marks eG11 (by decide)
    have hf_oneMind := hf_oneMind.keep hf_marks eG11 (by decide)
    have hwk_o := hwk_o.keep hf_marks eG11 (by decide)
    have honw_o := honw_o.keep hf_marks eG11 (by decide)
    have hse__o := hse__o.keep hf_marks eG11 (by decide)
    have hcle_o := hcle_o.keep hf_marks eG11 (by decide)
    have hstk_o := hstk_o.keep hf_marks eG11 (by decide)
    have hf_states := hf_states.keep hf_marks eG11 (by decide)
    have hcu_s := hcu_s.keep hf_marks eG11 (by decide)
    have heg_s := heg_s.keep hf_marks eG11 (by decide)
    have hpo_s := hpo_s.keep hf_marks eG11 (by decide)
    have hbg_s := hbg_s.keep hf_marks eG11 (by decide)
    have hbd_s := hbd_s.keep hf_marks eG11 (by decide)
    have hsd_s := hsd_s.keep hf_marks eG11 (by decide)
    have hse__s := hse__s.keep hf_marks eG11 (by decide)
    have hstk_s := hstk_s.keep hf_marks eG11 (by decide)
    have hst := (fx.rf (o := o) (S := [44]) (G := G10)).wr hf_marks eG11 (List.mem_singleton.mpr rfl)
    have pcsI_tkn_o := csI.fr hst pcsI_tkn_o (by decide) (by decide)
    have hlen := (z_len eG11).trans hlen
    have hsl := (z_sl hf_marks eG11 rfl).trans hsl
    have hfr := hfr.wr hf_marks eG11 (by decide)
    have hf_marks := hf_marks.kept eG11
    change ab_W _ _ _ (List.set G10 f_marks (ab_ob 2 [sp0_k, vR wk_k, vR mk_k, vz w_k, vz df_k, vR stk_k, vz dp_k, vz fo_k, vz fy_k, vz hw_k, q0_k, s0_k, vj 0])) 93 [some (vR w_), some (vz z1), some (vz z2), some (vj v2), none, some (vj (((stt + stm) + sto) + sts)), none] [] _
    rw [← eG11]
    refine ab_aload_n d_PW_settle_93 rfl ?_
    refine ab_getf (fs := [vR f_ready, vR f_tape, vR f_reader, vR f_programs, vR f_subject, vR f_spans, vR f_threads, vR f_marks, vR f_oneMind, vR f_states, vR f_latest, vR f_matches, vR f_pieces, vR f_template, vR f_result, vR f_spare, vz cmp, vz ovs]) f_PW_62 d_PW_settle_94 hw_.2.2 rfl ?_
    refine zz_lconst d_PW_settle_97 ?_
    change ab_W _ _ _ G11 98 [some (vR w_), some (vz z1), some (vz z2), some (vj v2), none, some (vj (((stt + stm) + sto) + sts)), none] [vj 0, vR f_oneMind] _
    refine ab_putf (fs := [sp0_o, vR wk_o, vR onw_o, vR tkn_o, vR se__o, vR cle_o, vR stk_o, vz dp_o, vz fo_o, vz chn_o, q0_o, s0_o, vz hw_o, vz fy_o, vj sto]) f_PW_260 (Or.inl rfl) d_PW_settle_98 hf_oneMind.2.2 (Nat.le_of_ble_eq_true rfl) (fun _ => ⟨rfl, rfl⟩) (hf_oneMind.2.1 (by decide)) ?_
    obtain ⟨G12, eG12⟩ : ∃ z : ab_G, z = List.set G11 f_oneMind (ab_ob 3 [sp0_o, vR wk_o, vR onw_o, vR tkn_o, vR se__o, vR cle_o, vR stk_o, vz dp_o, vz fo_o, vz chn_o, q0_o, s0_o, vz hw_o, vz fy_o, vj 0]) := ⟨_, rfl⟩
    have hw_ := hw_.keep hf_oneMind eG12 (by decide)
    have hf_subject := hf_subject.keep hf_oneMind eG12 (by decide)
    have hby_ := hby_.keep hf_oneMind eG12 (by decide)
    have hco := hco.keep hf_oneMind eG12 (by decide)
    have hre := hre.keep hf_oneMind eG12 (by decide)
    have hho := hho.keep hf_oneMind eG12 (by decide)
    have hf_threads := hf_threads.keep hf_oneMind eG12 (by decide)
    have hwk_t := hwk_t.keep hf_oneMind eG12 (by decide)
    have hnw_t := hnw_t.keep hf_oneMind eG12 (by omega)
    have htn_t := htn_t.keep hf_oneMind eG12 (by omega)
    have hnsp_t := hnsp_t.keep hf_oneMind eG12 (by omega)
    have htsp_t := htsp_t.keep hf_oneMind eG12 (by omega)
    have hse_t := hse_t.keep hf_oneMind eG12 (by decide)
    have hstk_t := hstk_t.keep hf_oneMind eG12 (by decide)
    have hf_marks := hf_marks.keep hf_oneMind eG12 (by decide)
    have hwk_k := hwk_k.keep hf_oneMind eG12 (by decide)
    have hmk_k := hmk_k.keep hf_oneMind eG12 (by decide)
    have hstk_k := hstk_k.keep hf_oneMind eG12 (by decide)
    have hwk_o := hwk_o.keep hf_oneMind eG12 (by decide)
    have honw_o := honw_o.keep hf_oneMind eG12 (by decide)
    have hse__o := hse__o.keep hf_oneMind eG12 (by decide)
    have hcle_o := hcle_o.keep hf_oneMind eG12 (by decide)
    have hstk_o := hstk_o.keep hf_oneMind eG12 (by decide)
    have hf_states := hf_states.keep hf_oneMind eG12 (by decide)
    have hcu_s := hcu_s.keep hf_oneMind eG12 (by decide)
    have heg_s := heg_s.keep hf_oneMind eG12 (by decide)
    have hpo_s := hpo_s.keep hf_oneMind eG12 (by decide)
    have hbg_s := hbg_s.keep hf_oneMind eG12 (by decide)
    have hbd_s := hbd_s.keep hf_oneMind eG12 (by decide)
    have hsd_s := hsd_s.keep hf_oneMind eG12 (by decide)
    have hse__s := hse__s.keep hf_oneMind eG12 (by decide)
    have hstk_s := hstk_s.keep hf_oneMind eG12 (by decide)
    have hst := (fx.rf (o := o) (S := [50]) (G := G11)).wr hf_oneMind eG12 (List.mem_singleton.mpr rfl)
    have pcsI_tkn_o := csI.fr hst pcsI_tkn_o (by decide) (by decide)
    have hlen := (z_len eG12).trans hlen
    have hsl := (z_sl hf_oneMind eG12 rfl).trans hsl
    have hfr := hfr.wr hf_oneMind eG12 (by decide)
    have hf_oneMind := hf_oneMind.kept eG12
    change ab_W _ _ _ (List.set G11 f_oneMind (ab_ob 3 [sp0_o, vR wk_o, vR onw_o, vR tkn_o, vR se__o, vR cle_o, vR stk_o, vz dp_o, vz fo_o, vz chn_o, q0_o, s0_o, vz hw_o, vz fy_o, vj 0])) 101 [some (vR w_), some (vz z1), some (vz z2), some (vj v2), none, some (vj (((stt + stm) + sto) + sts)), none] [] _
    rw [← eG12]
    refine ab_aload_n d_PW_settle_101 rfl ?_
    refine ab_getf (fs := [vR f_ready, vR f_tape, vR f_reader, vR f_programs, vR f_subject, vR f_spans, vR f_threads, vR f_marks, vR f_oneMind, vR f_states, vR f_latest, vR f_matches, vR f_pieces, vR f_template, vR f_result, vR f_spare, vz cmp, vz ovs]) f_PW_69 d_PW_settle_102 hw_.2.2 rfl ?_
    refine zz_lconst d_PW_settle_105 ?_
    change ab_W _ _ _ G12 106 [some (vR w_), some (vz z1), some (vz z2), some (vj v2), none, some (vj (((stt + stm) + sto) + sts)), none] [vj 0, vR f_states] _
    refine ab_putf (fs := [vz mst_s, q0_s, vz vr_s, vz ro_s, vR cu_s, vz cn_s, vR eg_s, vR po_s, vR bg_s, vR bd_s, vz ct_s, vR sd_s, vz sc_s, vR se__s, vz sta_s, vR stk_s, vz arv_s, vj sts]) f_PW_261 (Or.inl rfl) d_PW_settle_106 hf_states.2.2 (Nat.le_of_ble_eq_true rfl) (fun _ => ⟨rfl, rfl⟩) (hf_states.2.1 (by decide)) ?_
    obtain ⟨G13, eG13⟩ : ∃ z : ab_G, z = List.set G12 f_states (ab_ob 8 [vz mst_s, q0_s, vz vr_s, vz ro_s, vR cu_s, vz cn_s, vR eg_s, vR po_s, vR bg_s, vR bd_s, vz ct_s, vR sd_s, vz sc_s, vR se__s, vz sta_s, vR stk_s, vz arv_s, vj 0]) := ⟨_, rfl⟩
    have hw_ := hw_.keep hf_states eG13 (by decide)
    have hf_subject := hf_subject.keep hf_states eG13 (by decide)
    have hby_ := hby_.keep hf_states eG13 (by decide)
    have hco := hco.keep hf_states eG13 (by decide)
    have hre := hre.keep hf_states eG13 (by decide)
    have hho := hho.keep hf_states eG13 (by decide)
    have hf_threads := hf_threads.keep hf_states eG13 (by decide)
    have hwk_t := hwk_t.keep hf_states eG13 (by decide)
    have hnw_t := hnw_t.keep hf_states eG13 (by omega)
    have htn_t := htn_t.keep hf_states eG13 (by omega)
    have hnsp_t := hnsp_t.keep hf_states eG13 (by omega)
    have htsp_t := htsp_t.keep hf_states eG13 (by omega)
    have hse_t := hse_t.keep hf_states eG13 (by decide)
    have hstk_t := hstk_t.keep hf_states eG13 (by decide)
    have hf_marks := hf_marks.keep hf_states eG13 (by decide)
    have hwk_k := hwk_k.keep hf_states eG13 (by decide)
    have hmk_k := hmk_k.keep hf_states eG13 (by decide)
    have hstk_k := hstk_k.keep hf_states eG13 (by decide)
    have hf_oneMind := hf_oneMind.keep hf_states eG13 (by decide)
    have hwk_o := hwk_o.keep hf_states eG13 (by decide)
    have honw_o := honw_o.keep hf_states eG13 (by decide)
    have hse__o := hse__o.keep hf_states eG13 (by decide)
    have hcle_o := hcle_o.keep hf_states eG13 (by decide)
    have hstk_o := hstk_o.keep hf_states eG13 (by decide)
    have hcu_s := hcu_s.keep hf_states eG13 (by decide)
    have heg_s := heg_s.keep hf_states eG13 (by decide)
    have hpo_s := hpo_s.keep hf_states eG13 (by decide)
    have hbg_s := hbg_s.keep hf_states eG13 (by decide)
    have hbd_s := hbd_s.keep hf_states eG13 (by decide)
    have hsd_s := hsd_s.keep hf_states eG13 (by decide)
    have hse__s := hse__s.keep hf_states eG13 (by decide)
    have hstk_s := hstk_s.keep hf_states eG13 (by decide)
    have hst := (fx.rf (o := o) (S := [60]) (G := G12)).wr hf_states eG13 (List.mem_singleton.mpr rfl)
    have pcsI_tkn_o := csI.fr hst pcsI_tkn_o (by decide) (by decide)
    have hlen := (z_len eG13).trans hlen
    have hsl := (z_sl hf_states eG13 rfl).trans hsl
    have hfr := hfr.wr hf_states eG13 (by decide)
    have hf_states := hf_states.kept eG13
    change ab_W _ _ _ (List.set G12 f_states (ab_ob 8 [vz mst_s, q0_s, vz vr_s, vz ro_s, vR cu_s, vz cn_s, vR eg_s, vR po_s, vR bg_s, vR bd_s, vz ct_s, vR sd_s, vz sc_s, vR se__s, vz sta_s, vR stk_s, vz arv_s, vj 0])) 109 [some (vR w_), some (vz z1), some (vz z2), some (vj v2), none, some (vj (((stt + stm) + sto) + sts)), none] [] _
    rw [← eG13]
    have psuI_f_subject : suI o G13 f_subject n m f := ⟨by_, co, re, ho, C, Rs, H, mc, hf_subject, hby_, hco, hre, hho, (by omega), hsu⟩
    have pthI_f_threads : thI o G13 f_threads 0 := ⟨wk_t, nw_t, tn_t, nsp_t, tsp_t, se_t, stk_t, nc_t, tc_t, sta_t, fo_t, hw_t, fy_t, WK_t, NW_t, TN_t, NS_t, TS_t, SE_t, SK_t, l1_t, l2_t, l3_t, l4_t, sp0_t, q0_t, s0_t, hf_threads, hwk_t, hnw_t, htn_t, hnsp_t, htsp_t, hse_t, hstk_t, (by omega), jse_t, (by omega), (by omega)⟩
    have pmkI_f_marks : mkI o G13 f_marks nm ns 0 := ⟨wk_k, mk_k, stk_k, w_k, df_k, dp_k, fo_k, fy_k, hw_k, WK_k, M_k, SK_k, sp0_k, q0_k, s0_k, hf_marks, hwk_k, hmk_k, hstk_k, (by omega), hst_k, (by omega), (by omega)⟩
    have pomI_f_oneMind : omI o G13 f_oneMind on nt 0 := ⟨wk_o, onw_o, tkn_o, se__o, cle_o, stk_o, dp_o, fo_o, chn_o, hw_o, fy_o, WK_o, ON_o, SK_o, sp0_o, q0_o, s0_o, SE_o, CL_o, ct_o, P_o, nk_o, hf_oneMind, hwk_o, honw_o, hse__o, hcle_o, hstk_o, pcsI_tkn_o, hon_o, (by omega), (by omega)⟩
    have pstI_f_states : stI o G13 f_states cv cmp 0 sb := ⟨cu_s, eg_s, po_s, bg_s, bd_s, sd_s, se__s, stk_s, mst_s, q0_s, vr_s, ro_s, cn_s, ct_s, sc_s, sta_s, arv_s, CU_s, EG_s, PO_s, BG_s, BD_s, SD_s, SE_s, SK_s, hf_states, hcu_s, heg_s, hpo_s, hbg_s, hbd_s, hsd_s, hse__s, hstk_s, jcu_s, (by omega), (by omega), (by omega), jbg_s, jpo_s, jbd_s, jeg_s, (by omega), (by omega), jse_s, (by omega), jsq_s⟩
    refine ab_vret rfl d_PW_settle_109 ?_
    rw [hQ]; exact ⟨rfl, hfr, hlen, hsl, hw_, pthI_f_threads, pmkI_f_marks, pomI_f_oneMind, pstI_f_states, psuI_f_subject⟩
set_option maxRecDepth 100000 in
set_option maxHeartbeats 4000000 in
theorem z0_PW_run {X : ab_X} {d : Nat} {o : Nat → Nat} {G : ab_G} {w_ : Nat} {f_ready : Nat} {f_tape : Nat} {f_reader : Nat} {f_programs : Nat} {f_subject : Nat} {f_spans : Nat} {f_threads : Nat} {f_marks : Nat} {f_oneMind : Nat} {f_states : Nat} {f_latest : Nat} {f_matches : Nat} {f_pieces : Nat} {f_template : Nat} {f_result : Nat} {f_spare : Nat} {cmp : Int} {ovs : Int} {q : Nat} {lq : Nat} {nr : Nat} {cv : Int → Int} {on : Nat} {mi : Int} {nm : Nat} {ns : Nat} {n : Int} {m : Nat} {SP : Int → Int} {f : Int → Int} {hw : Int} {p : Int} {stm : Int} {sz : Int} (hw_ : cc o G w_ 18 (ab_ob 0 [vR f_ready, vR f_tape, vR f_reader, vR f_programs, vR f_subject, vR f_spans, vR f_threads, vR f_marks, vR f_oneMind, vR f_states, vR f_latest, vR f_matches, vR f_pieces, vR f_template, vR f_result, vR f_spare, vz cmp, vz ovs])) (hf_spans : cc o G f_spans 31 (za 20 SP)) (h17 : cc o G 17 17 (za 12 zFC)) (pmkI_f_marks : mkI o G f_marks nm ns stm) (psuI_f_subject : suI o G f_subject n m f) (ppgB_q : pgB o G q lq nr cv cmp on mi sz) (n18 : ab_n0 = 18) (chw : 0 ≤ hw ∧ hw ≤ 2 ∧ 0 ≤ p ∧ p ≤ n) (jsp : rgs SP 20 (-1) 2000) (rc : 64 * G.length + 4400000 ≤ 64 * (ab_n0 + room_1.cells) + (64 * nm + 64 * stC ns)) (rs : ab_slots G + 2140000 ≤ room_1.slots + (zT nm 52026 + stT ns)) (hd : 15 ≤ d) : ab_F X d y_PW_run (.code y_PW_run b_PW_run 5 (some (.int))) [vR w_, vR q, vz hw, vz 0, vz p] G (fun oc G2 => ∃ o2 : Nat → Nat, ∃ nm2 : Nat, ∃ ns2 : Nat, ∃ SP2 : Int → Int, ∃ r : Int, ∃ s2_ : Int, oc = .returned (some (vz r)) ∧ fx o o2 [31, 44, 45, 46, 47] G G2 ∧ cc o2 G2 f_spans 31 (za 20 SP2) ∧ mkI o2 G2 f_marks nm2 ns2 s2_ ∧ suI o2 G2 f_subject n m f ∧ pgB o2 G2 q lq nr cv cmp on mi sz ∧ (rnX cv lq f n hw p r SP2) ∧ (stm ≤ s2_ ∧ s2_ ≤ stm + 1665 * (n + 1) + 1665) ∧ (-1 ≤ r ∧ r ≤ n) ∧ (rgs SP2 20 (-1) 2000) ∧ (64 * G2.length + (64 * nm + 64 * stC ns) ≤ 64 * G.length + (64 * nm2 + 64 * stC ns2)) ∧ (ab_slots G2 + (zT nm 52026 + stT ns) ≤ ab_slots G + (zT nm2 52026 + stT ns2))) := by
  refine ab_F_of (by decide +kernel) (Nat.le_of_ble_eq_true rfl) ?_
  obtain ⟨Q, hQ⟩ : ∃ z : Outcome → ab_G → Prop, z = (fun oc G2 => ∃ o2 : Nat → Nat, ∃ nm2 : Nat, ∃ ns2 : Nat, ∃ SP2 : Int → Int, ∃ r : Int, ∃ s2_ : Int, oc = .returned (some (vz r)) ∧ fx o o2 [31, 44, 45, 46, 47] G G2 ∧ cc o2 G2 f_spans 31 (za 20 SP2) ∧ mkI o2 G2 f_marks nm2 ns2 s2_ ∧ suI o2 G2 f_subject n m f ∧ pgB o2 G2 q lq nr cv cmp on mi sz ∧ (rnX cv lq f n hw p r SP2) ∧ (stm ≤ s2_ ∧ s2_ ≤ stm + 1665 * (n + 1) + 1665) ∧ (-1 ≤ r ∧ r ≤ n) ∧ (rgs SP2 20 (-1) 2000) ∧ (64 * G2.length + (64 * nm + 64 * stC ns) ≤ 64 * G.length + (64 * nm2 + 64 * stC ns2)) ∧ (ab_slots G2 + (zT nm 52026 + stT ns) ≤ ab_slots G + (zT nm2 52026 + stT ns2))) := ⟨_, rfl⟩
  rw [← hQ]
  change ab_W X (ab_pl y_PW_run b_PW_run 5 (some (.int))) d G 0 [some (vR w_), some (vR q), some (vz hw), some (vz 0), some (vz p)] [] Q
  have hfr : fx o o [31, 44, 45, 46, 47] G G := fx.rf
  obtain ⟨ki, ne, ot, cnt, fi, la, ra, ru, gr, wi, fl, ve, na, nl, K, N, O, RR, NA, NL, hq, hki, hne, hot, hra, hna, hnl, cq, hpu, hp, hr, hch, cru, ck9, cfi, cgr, cfl, hpo, hmi, hvc, cve, jnl, hiv, hmn, jna, hla, hpv, cv1, hkk, hoc, csz⟩ := ppgB_q
  have hmn0_ := hmn
  obtain ⟨v9_, hmv_, hpm_⟩ := hmn0_
  obtain ⟨by_, co, re, ho, C, Rs, H, mc, hf_subject, hby_, hco, hre, hho, csu, hsu⟩ := psuI_f_subject
  have hq1 := stT_le ns
  have hq2 := stC_le ns
  have hq3 := onPQ_le on
  have hq4 := onSQ_le on
  have hnm_ := pmkI_f_marks.b
  have hzt_ : zT nm 52026 ≤ 156078 := zT_le (c := 52026) (by omega) rfl
  obtain ⟨wk_k, mk_k, stk_k, w_k, df_k, dp_k, fo_k, fy_k, hw_k, WK_k, M_k, SK_k, sp0_k, q0_k, s0_k, hf_marks, hwk_k, hmk_k, hstk_k, cn_k, hst_k, cfo_k, cst0_k⟩ := pmkI_f_marks
  refine ab_iload_n d_PW_run_0 rfl ?_
  refine zz_iconst d_PW_run_1 ?_
  refine zz_icmp_ne (tgt := 25) d_PW_run_2 (by decide) (by decide) (by decide) (fun c5 => ?_) (fun c5 => absurd c5 (by decide))
  refine ab_iload_n d_PW_run_25 rfl ?_
  refine zz_iconst d_PW_run_26 ?_
  refine zz_icmp_ne (tgt := 65) d_PW_run_27 (by decide) (by decide) (by decide) (fun c6 => ?_) (fun c6 => absurd c6 (by decide))
  refine ab_iload_n d_PW_run_65 rfl ?_
  refine zz_iconst d_PW_run_66 ?_
  refine zz_icmp_ne (tgt := 90) d_PW_run_67 (by decide) (by decide) (by decide) (fun c7 => ?_) (fun c7 => absurd c7 (by decide))
  refine ab_aload_n d_PW_run_90 rfl ?_
  refine ab_getf (fs := [vR f_ready, vR f_tape, vR f_reader, vR f_programs, vR f_subject, vR f_spans, vR f_threads, vR f_marks, vR f_oneMind, vR f_states, vR f_latest, vR f_matches, vR f_pieces, vR f_template, vR f_result, vR f_spare, vz cmp, vz ovs]) f_PW_55 d_PW_run_91 hw_.2.2 rfl ?_
  refine ab_aload_n d_PW_run_94 rfl ?_
  refine ab_aload_n d_PW_run_95 rfl ?_
  refine ab_getf (fs := [vR f_ready, vR f_tape, vR f_reader, vR f_programs, vR f_subject, vR f_spans, vR f_threads, vR f_marks, vR f_oneMind, vR f_states, vR f_latest, vR f_matches, vR f_pieces, vR f_template, vR f_result, vR f_spare, vz cmp, vz ovs]) f_PW_38 d_PW_run_96 hw_.2.2 rfl ?_
  refine ab_iload_n d_PW_run_99 rfl ?_
  refine ab_iload d_PW_run_100 rfl ?_
  refine ab_aload_n d_PW_run_102 rfl ?_
  refine ab_getf (fs := [vR f_ready, vR f_tape, vR f_reader, vR f_programs, vR f_subject, vR f_spans, vR f_threads, vR f_marks, vR f_oneMind, vR f_states, vR f_latest, vR f_matches, vR f_pieces, vR f_template, vR f_result, vR f_spare, vz cmp, vz ovs]) f_PW_42 d_PW_run_103 hw_.2.2 rfl ?_
  refine ab_callV (d' := d - 1) (as := [vR q, vR f_subject, vz hw, vz p, vR f_spans]) (st := []) (r := _) (z_MK_begin (o := o) (q := q) (lq := lq) (ki := ki) (ne := ne) (ot := ot) (cnt := cnt) (fi := fi) (la := la) (ra := ra) (ru := ru) (gr := gr) (wi := wi) (sz := sz) (fl := fl) (ve := ve) (mi := mi) (na := na) (nl := nl) (s := f_subject) (by_ := by_) (co := co) (re := re) (ho := ho) (n := n) (a := f_marks) (sp := f_spans) (wk := wk_k) (mk := mk_k) (stk := stk_k) (dp := dp_k) (fo := fo_k) (hw := hw) (stp := stm) (M := M_k) (nm := nm) (q0 := q0_k) (s0 := s0_k) (sp0 := sp0_k) (from_ := p) (hw0 := hw_k) (fy0 := fy_k) (w0 := w_k) (df0 := df_k) hf_marks hmk_k hq hf_subject (by omega) (by omega) (by omega) (by omega) (by omega) (by omega) (by omega)) (fun oc G2 h => by rcases h with ⟨_, _, _, _, _, _, h, _⟩ <;> exact ⟨_, h⟩) (by omega) m_MK_begin ml_PW_189 im_MK_begin se_MK_begin c_MK hf_marks.2.2 (Nat.le_of_ble_eq_true rfl) d_PW_run_106 rfl ?_
  intro v G8 hq
  rcases hq with ⟨o9, w210, fy211, mk212, nm213, M214, hv, hfk, hNf_marks, hNmk212, hq15, hq16, hq17, hq18, hq19, hq20, hq21⟩
  cases hv
  have hw_ := hfk.get hw_ (by decide)
  have hf_spans := hfk.get hf_spans (by decide)
  have h17 := hfk.get h17 (by decide)
  have hq := hfk.get hq (by simp only [List.mem_cons, List.not_mem_nil, or_false]; omega)
  have hki := hfk.get hki (by simp only [List.mem_cons, List.not_mem_nil, or_false]; omega)
  have hne := hfk.get hne (by simp only [List.mem_cons, List.not_mem_nil, or_false]; omega)
  have hot := hfk.get hot (by simp only [List.mem_cons, List.not_mem_nil, or_false]; omega)
  have hra := hfk.get hra (by simp only [List.mem_cons, List.not_mem_nil, or_false]; omega)
  have hna := hfk.get hna (by simp only [List.mem_cons, List.not_mem_nil, or_false]; omega)
  have hnl := hfk.get hnl (by simp only [List.mem_cons, List.not_mem_nil, or_false]; omega)
  have hf_subject := hfk.get hf_subject (by decide)
  have hby_ := hfk.get hby_ (by decide)
  have hco := hfk.get hco (by decide)
  have hre := hfk.get hre (by decide)
  have hho := hfk.get hho (by decide)
  have hwk_k := hfk.get hwk_k (by decide)
  have hstk_k := hfk.get hstk_k (by decide)
  have hfr := hfr.tr hfk (by decide)
  have hq22 := hfk.1
  have hf_marks := hNf_marks
  have hmk212 := hNmk212
  change ab_W _ _ _ G8 109 [some (vR w_), some (vR q), some (vz hw), some (vz 0), some (vz p)] [] _
  have hub_ := ucn_b (M := M214) (w := w210) (df := p) (n := n) (by omega) (by omega)
  have hzt2_ : zT nm213 52026 ≤ 156078 := zT_le (c := 52026) (by omega) rfl
  refine ab_aload_n d_PW_run_109 rfl ?_
  refine ab_getf (fs := [vR f_ready, vR f_tape, vR f_reader, vR f_programs, vR f_subject, vR f_spans, vR f_threads, vR f_marks, vR f_oneMind, vR f_states, vR f_latest, vR f_matches, vR f_pieces, vR f_template, vR f_result, vR f_spare, vz cmp, vz ovs]) f_PW_55 d_PW_run_110 hw_.2.2 rfl ?_
  refine ab_iload d_PW_run_113 rfl ?_
  refine ab_callV (d' := d - 1) (as := [vz p]) (st := []) (r := _) (z_MK_find (o := o9) (q := q) (lq := lq) (ki := ki) (ne := ne) (ot := ot) (cnt := cnt) (fi := fi) (la := la) (ra := ra) (ru := ru) (gr := gr) (wi := wi) (sz := sz) (fl := fl) (ve := ve) (mi := mi) (na := na) (nl := nl) (K := K) (N := N) (O := O) (RR := RR) (nr := nr) (s := f_subject) (by_ := by_) (co := co) (re := re) (ho := ho) (n := n) (C := C) (Rs := Rs) (H := H) (mc := mc) (a := f_marks) (sp := f_spans) (wk := wk_k) (mk := mk212) (stk := stk_k) (w := w210) (df := p) (dp := dp_k) (fo := fo_k) (fy := fy211) (hw := hw) (stp := stm) (SP := SP) (WK := WK_k) (M := M214) (SK := SK_k) (nm := nm213) (ns := ns) (p := p) (v9 := v9_) hf_marks hf_spans hwk_k hmk212 hstk_k hq hki hne hot hra hf_subject hco hre hho (by omega) hp hr (by omega) hsu (by omega) (by omega) (by omega) (by omega) (by omega) (by omega) hst_k (by omega) (by omega) jsp (by omega) (by omega) hpm_ (ddC_0 (by omega)) (by omega)) (fun oc G2 h => by rcases h with ⟨_, _, _, _, _, _, _, _, _, _, _, h, _⟩ | ⟨_, _, _, _, _, _, _, _, _, _, _, _, h, _⟩ <;> exact ⟨_, h⟩) (by omega) m_MK_find ml_PW_251 im_MK_find se_MK_find c_MK hf_marks.2.2 (Nat.le_of_ble_eq_true rfl) d_PW_run_115 rfl ?_
  intro v G23 hq
  rcases hq with ⟨o24, df225, dp226, fo227, st228, sk229, ns230, WK231, M232, SK233, SP234, hv, hfk, hNf_marks, hNf_spans, hNwk_k, hNmk212, hNsk229, hq35, hq36, hq37, hq38, hq39, hq40, hq41, hq42, hq43⟩ | ⟨o44, df245, dp246, fo247, st248, sk249, ns250, WK251, M252, SK253, SP254, r55, hv, hfk, hNf_marks, hNf_spans, hNwk_k, hNmk212, hNsk249, hq56, hq57, hq58, hq59, hq60, hq61, hq62, hq63, hq64, hq65, hq66, hq67, hq68, hq69⟩
  · cases hv
    have hw_ := hfk.get hw_ (by decide)
    have h17 := hfk.get h17 (by decide)
    have hq := hfk.get hq (by simp only [List.mem_cons, List.not_mem_nil, or_false]; omega)
    have hki := hfk.get hki (by simp only [List.mem_cons, List.not_mem_nil, or_false]; omega)
    have hne := hfk.get hne (by simp only [List.mem_cons, List.not_mem_nil, or_false]; omega)
    have hot := hfk.get hot (by simp only [List.mem_cons, List.not_mem_nil, or_false]; omega)
    have hra := hfk.get hra (by simp only [List.mem_cons, List.not_mem_nil, or_false]; omega)
    have hna := hfk.get hna (by simp only [List.mem_cons, List.not_mem_nil, or_false]; omega)
    have hnl := hfk.get hnl (by simp only [List.mem_cons, List.not_mem_nil, or_false]; omega)
    have hf_subject := hfk.get hf_subject (by decide)
    have hby_ := hfk.get hby_ (by decide)
    have hco := hfk.get hco (by decide)
    have hre := hfk.get hre (by decide)
    have hho := hfk.get hho (by decide)
    have hfr := hfr.tr hfk (by decide)
    have hq70 := hfk.1
    have hf_marks := hNf_marks
    have hf_spans := hNf_spans
    have hwk_k := hNwk_k
    have hmk212 := hNmk212
    have hsk229 := hNsk229
    change ab_W _ _ _ G23 118 [some (vR w_), some (vR q), some (vz hw), some (vz 0), some (vz p)] [vz (-1)] _
    have hub2_ := ucn_b (M := M232) (w := w210) (df := df225) (n := n) (by omega) (by omega)
    have pmkI_f_marks : mkI o24 G23 f_marks nm213 ns230 st228 := ⟨wk_k, mk212, sk229, w210, df225, dp226, fo227, fy211, hw, WK231, M232, SK233, vR f_spans, vR q, vR f_subject, hf_marks, hwk_k, hmk212, hsk229, (by omega), hq36, (by omega), (by omega)⟩
    have hmq_ : onq mi on := hmi
    have ppgB_q : pgB o24 G23 q lq nr cv cmp on mi sz := ⟨ki, ne, ot, cnt, fi, la, ra, ru, gr, wi, fl, ve, na, nl, K, N, O, RR, NA, NL, hq, hki, hne, hot, hra, hna, hnl, (by omega), hpu, hp, hr, hch, (by omega), (by omega), (by omega), (by omega), (by omega), hpo, hmq_, (by omega), (by omega), jnl, hiv, hmn, jna, hla, hpv, (by omega), hkk, hoc, (by omega)⟩
    have psuI_f_subject : suI o24 G23 f_subject n m f := ⟨by_, co, re, ho, C, Rs, H, mc, hf_subject, hby_, hco, hre, hho, (by omega), hsu⟩
    refine zz_iret rfl d_PW_run_118 ?_
    rw [hQ]; exact ⟨_, _, _, _, _, _, rfl, hfr, hf_spans, pmkI_f_marks, psuI_f_subject, ppgB_q, (by exact ⟨v9_, _, _, _, _, hmv_, hpm_.wp, hq19, hq43, by omega⟩), (by omega), (by omega), (by exact hq38), (by omega), (by omega)⟩
  · cases hv
    have hw_ := hfk.get hw_ (by decide)
    have h17 := hfk.get h17 (by decide)
    have hq := hfk.get hq (by simp only [List.mem_cons, List.not_mem_nil, or_false]; omega)
    have hki := hfk.get hki (by simp only [List.mem_cons, List.not_mem_nil, or_false]; omega)
    have hne := hfk.get hne (by simp only [List.mem_cons, List.not_mem_nil, or_false]; omega)
    have hot := hfk.get hot (by simp only [List.mem_cons, List.not_mem_nil, or_false]; omega)
    have hra := hfk.get hra (by simp only [List.mem_cons, List.not_mem_nil, or_false]; omega)
    have hna := hfk.get hna (by simp only [List.mem_cons, List.not_mem_nil, or_false]; omega)
    have hnl := hfk.get hnl (by simp only [List.mem_cons, List.not_mem_nil, or_false]; omega)
    have hf_subject := hfk.get hf_subject (by decide)
    have hby_ := hfk.get hby_ (by decide)
    have hco := hfk.get hco (by decide)
    have hre := hfk.get hre (by decide)
    have hho := hfk.get hho (by decide)
    have hfr := hfr.tr hfk (by decide)
    have hq71 := hfk.1
    have hf_marks := hNf_marks
    have hf_spans := hNf_spans
    have hwk_k := hNwk_k
    have hmk212 := hNmk212
    have hsk249 := hNsk249
    change ab_W _ _ _ G23 118 [some (vR w_), some (vR q), some (vz hw), some (vz 0), some (vz p)] [vz r55] _
    have hub2_ := ucn_b (M := M252) (w := w210) (df := df245) (n := n) (by omega) (by omega)
    have pmkI_f_marks : mkI o44 G23 f_marks nm213 ns250 st248 := ⟨wk_k, mk212, sk249, w210, df245, dp246, fo247, fy211, hw, WK251, M252, SK253, vR f_spans, vR q, vR f_subject, hf_marks, hwk_k, hmk212, hsk249, (by omega), hq57, (by omega), (by omega)⟩
    have hmq_ : onq mi on := hmi
    have ppgB_q : pgB o44 G23 q lq nr cv cmp on mi sz := ⟨ki, ne, ot, cnt, fi, la, ra, ru, gr, wi, fl, ve, na, nl, K, N, O, RR, NA, NL, hq, hki, hne, hot, hra, hna, hnl, (by omega), hpu, hp, hr, hch, (by omega), (by omega), (by omega), (by omega), (by omega), hpo, hmq_, (by omega), (by omega), jnl, hiv, hmn, jna, hla, hpv, (by omega), hkk, hoc, (by omega)⟩
    have psuI_f_subject : suI o44 G23 f_subject n m f := ⟨by_, co, re, ho, C, Rs, H, mc, hf_subject, hby_, hco, hre, hho, (by omega), hsu⟩
    refine zz_iret rfl d_PW_run_118 ?_
    rw [hQ]; exact ⟨_, _, _, _, _, _, rfl, hfr, hf_spans, pmkI_f_marks, psuI_f_subject, ppgB_q, (by exact ⟨v9_, _, _, _, _, hmv_, hpm_.wp, hq19, hq68, by omega⟩), (by omega), (by omega), (by exact hq59), (by omega), (by omega)⟩
