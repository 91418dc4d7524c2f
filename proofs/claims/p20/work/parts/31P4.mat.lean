set_option maxRecDepth 100000 in
set_option maxHeartbeats 4000000 in
theorem z_PW_match {X : ab_X} {d : Nat} {o : Nat → Nat} {G : ab_G} {w_ : Nat} {f_ready : Nat} {f_tape : Nat} {f_reader : Nat} {f_programs : Nat} {f_subject : Nat} {f_spans : Nat} {f_threads : Nat} {f_marks : Nat} {f_oneMind : Nat} {f_states : Nat} {f_latest : Nat} {f_matches : Nat} {f_pieces : Nat} {f_template : Nat} {f_result : Nat} {f_spare : Nat} {cmp : Int} {ovs : Int} {PG : Nat → Option Nat} {NR : Nat → Nat} {cv : Int → Int} {on : Nat} {nm : Nat} {ns : Nat} {nt : Nat} {n : Int} {m : Nat} {SP : Int → Int} {LA : Int → Int} {sl : Int} {hw : Int} {mch : Int} {p : Int} {k_ : Nat} (hw_ : cc o G w_ 18 (ab_ob 0 [vR f_ready, vR f_tape, vR f_reader, vR f_programs, vR f_subject, vR f_spans, vR f_threads, vR f_marks, vR f_oneMind, vR f_states, vR f_latest, vR f_matches, vR f_pieces, vR f_template, vR f_result, vR f_spare, vz cmp, vz ovs])) (hf_spans : cc o G f_spans 31 (za 20 SP)) (h17 : cc o G 17 17 (za 12 zFC)) (hf_latest : cc o G f_latest 70 (za 20 LA)) (hf_programs : cc o G f_programs 81 (ab_rr 6 PG)) (pthI_f_threads : thI o G f_threads 0) (pmkI_f_marks : mkI o G f_marks nm ns 0) (pomI_f_oneMind : omI o G f_oneMind on nt 0) (pstI_f_states : stI o G f_states cv cmp 0) (psuI_f_subject : suI o G f_subject n m) (ppgI_0 : pgI o G 0 PG NR cv cmp on) (n18 : ab_n0 = 18) (hkq : kq6 sl k_) (cr : -2147483648 ≤ sl ∧ sl ≤ 2147483647 ∧ -2147483648 ≤ hw ∧ hw ≤ 2147483647 ∧ -2147483648 ≤ mch ∧ mch ≤ 2147483647 ∧ -2147483648 ≤ p ∧ p ≤ 2147483647) (jsp : rgs SP 20 (-1) 2000) (rc : 64 * G.length + 4600000 ≤ 64 * (ab_n0 + room_1.cells) + (64 * nm + 64 * stC ns + nt + onP on)) (rs : ab_slots G + 2360000 ≤ room_1.slots + (zT nm 52026 + stT ns + 2 * nt + onS on)) (hd : 16 ≤ d) : ab_F X d y_PW_match (.code y_PW_match b_PW_match 7 (some (.int))) [vR w_, vz sl, vz hw, vz mch, vz p] G (fun oc G2 => (∃ o2 : Nat → Nat, ∃ b : Nat, oc = .threw b ∧ fx o o2 [18, 70, 31, 32, 33, 35, 36, 37, 38, 39, 40, 44, 45, 46, 47, 50, 51, 52, 53, 54, 55, 56, 57, 60, 61, 62, 63, 64, 65, 66, 67, 68, (100 + 10 * k_)] G G2 ∧ cc o2 G2 w_ 18 (ab_ob 0 [vR f_ready, vR f_tape, vR f_reader, vR f_programs, vR f_subject, vR f_spans, vR f_threads, vR f_marks, vR f_oneMind, vR f_states, vR f_latest, vR f_matches, vR f_pieces, vR f_template, vR f_result, vR f_spare, vz cmp, vz ovs]) ∧ cc o2 G2 f_spans 31 (za 20 SP) ∧ cc o2 G2 f_latest 70 (za 20 LA) ∧ thI o2 G2 f_threads 0 ∧ mkI o2 G2 f_marks nm ns 0 ∧ omI o2 G2 f_oneMind on nt 0 ∧ stI o2 G2 f_states cv cmp 0 ∧ suI o2 G2 f_subject n m ∧ pgI o2 G2 0 PG NR cv cmp on ∧ (G2[b]? = some (.inr (13, []))) ∧ (G2.length = G.length + 1) ∧ (ab_slots G2 = ab_slots G + 6)) ∨ (∃ o2 : Nat → Nat, ∃ nm2 : Nat, ∃ ns2 : Nat, ∃ on2 : Nat, ∃ nt2 : Nat, ∃ SP2 : Int → Int, ∃ LA2 : Int → Int, ∃ r : Int, oc = .returned (some (vz r)) ∧ fx o o2 [18, 70, 31, 32, 33, 35, 36, 37, 38, 39, 40, 44, 45, 46, 47, 50, 51, 52, 53, 54, 55, 56, 57, 60, 61, 62, 63, 64, 65, 66, 67, 68, (100 + 10 * k_)] G G2 ∧ cc o2 G2 w_ 18 (ab_ob 0 [vR f_ready, vR f_tape, vR f_reader, vR f_programs, vR f_subject, vR f_spans, vR f_threads, vR f_marks, vR f_oneMind, vR f_states, vR f_latest, vR f_matches, vR f_pieces, vR f_template, vR f_result, vR f_spare, vz cmp, vz ovs]) ∧ cc o2 G2 f_spans 31 (za 20 SP2) ∧ cc o2 G2 f_latest 70 (za 20 LA2) ∧ thI o2 G2 f_threads 0 ∧ mkI o2 G2 f_marks nm2 ns2 0 ∧ omI o2 G2 f_oneMind on2 nt2 0 ∧ stI o2 G2 f_states cv cmp 0 ∧ suI o2 G2 f_subject n m ∧ pgI o2 G2 0 PG NR cv cmp on2 ∧ (rgs SP2 20 (-1) 2000) ∧ (64 * G2.length + (64 * nm + 64 * stC ns + nt + onP on) ≤ 64 * G.length + (64 * nm2 + 64 * stC ns2 + nt2 + onP on2)) ∧ (ab_slots G2 + (zT nm 52026 + stT ns + 2 * nt + onS on) ≤ ab_slots G + (zT nm2 52026 + stT ns2 + 2 * nt2 + onS on2)) ∧ (onL on on2))) := by
  refine ab_F_of (by decide +kernel) (Nat.le_of_ble_eq_true rfl) ?_
  obtain ⟨Q, hQ⟩ : ∃ z : Outcome → ab_G → Prop, z = (fun oc G2 => (∃ o2 : Nat → Nat, ∃ b : Nat, oc = .threw b ∧ fx o o2 [18, 70, 31, 32, 33, 35, 36, 37, 38, 39, 40, 44, 45, 46, 47, 50, 51, 52, 53, 54, 55, 56, 57, 60, 61, 62, 63, 64, 65, 66, 67, 68, (100 + 10 * k_)] G G2 ∧ cc o2 G2 w_ 18 (ab_ob 0 [vR f_ready, vR f_tape, vR f_reader, vR f_programs, vR f_subject, vR f_spans, vR f_threads, vR f_marks, vR f_oneMind, vR f_states, vR f_latest, vR f_matches, vR f_pieces, vR f_template, vR f_result, vR f_spare, vz cmp, vz ovs]) ∧ cc o2 G2 f_spans 31 (za 20 SP) ∧ cc o2 G2 f_latest 70 (za 20 LA) ∧ thI o2 G2 f_threads 0 ∧ mkI o2 G2 f_marks nm ns 0 ∧ omI o2 G2 f_oneMind on nt 0 ∧ stI o2 G2 f_states cv cmp 0 ∧ suI o2 G2 f_subject n m ∧ pgI o2 G2 0 PG NR cv cmp on ∧ (G2[b]? = some (.inr (13, []))) ∧ (G2.length = G.length + 1) ∧ (ab_slots G2 = ab_slots G + 6)) ∨ (∃ o2 : Nat → Nat, ∃ nm2 : Nat, ∃ ns2 : Nat, ∃ on2 : Nat, ∃ nt2 : Nat, ∃ SP2 : Int → Int, ∃ LA2 : Int → Int, ∃ r : Int, oc = .returned (some (vz r)) ∧ fx o o2 [18, 70, 31, 32, 33, 35, 36, 37, 38, 39, 40, 44, 45, 46, 47, 50, 51, 52, 53, 54, 55, 56, 57, 60, 61, 62, 63, 64, 65, 66, 67, 68, (100 + 10 * k_)] G G2 ∧ cc o2 G2 w_ 18 (ab_ob 0 [vR f_ready, vR f_tape, vR f_reader, vR f_programs, vR f_subject, vR f_spans, vR f_threads, vR f_marks, vR f_oneMind, vR f_states, vR f_latest, vR f_matches, vR f_pieces, vR f_template, vR f_result, vR f_spare, vz cmp, vz ovs]) ∧ cc o2 G2 f_spans 31 (za 20 SP2) ∧ cc o2 G2 f_latest 70 (za 20 LA2) ∧ thI o2 G2 f_threads 0 ∧ mkI o2 G2 f_marks nm2 ns2 0 ∧ omI o2 G2 f_oneMind on2 nt2 0 ∧ stI o2 G2 f_states cv cmp 0 ∧ suI o2 G2 f_subject n m ∧ pgI o2 G2 0 PG NR cv cmp on2 ∧ (rgs SP2 20 (-1) 2000) ∧ (64 * G2.length + (64 * nm + 64 * stC ns + nt + onP on) ≤ 64 * G.length + (64 * nm2 + 64 * stC ns2 + nt2 + onP on2)) ∧ (ab_slots G2 + (zT nm 52026 + stT ns + 2 * nt + onS on) ≤ ab_slots G + (zT nm2 52026 + stT ns2 + 2 * nt2 + onS on2)) ∧ (onL on on2))) := ⟨_, rfl⟩
  rw [← hQ]
  change ab_W X (ab_pl y_PW_match b_PW_match 7 (some (.int))) d G 0 [some (vR w_), some (vz sl), some (vz hw), some (vz mch), some (vz p), none, none] [] Q
  have hfr : fx o o [18, 70, 31, 32, 33, 35, 36, 37, 38, 39, 40, 44, 45, 46, 47, 50, 51, 52, 53, 54, 55, 56, 57, 60, 61, 62, 63, 64, 65, 66, 67, 68, (100 + 10 * k_)] G G := fx.rf
  have hq1 := stT_le ns
  have hq2 := stC_le ns
  have hq3 := onP_le on
  have hq4 := onS_le on
  have hnt_ := pomI_f_oneMind.nt
  have hnm_ := pmkI_f_marks.b
  have hzt_ : zT nm 52026 ≤ 156078 := zT_le (c := 52026) (by omega) rfl
  refine ab_aload_n d_PW_match_0 rfl ?_
  refine ab_iload_n d_PW_match_1 rfl ?_
  refine ab_callV (d' := d - 1) (as := [vz sl]) (st := []) (r := _) (z_PW_programAt (o := o) (w_ := w_) (f_ready := f_ready) (f_tape := f_tape) (f_reader := f_reader) (f_programs := f_programs) (f_subject := f_subject) (f_spans := f_spans) (f_threads := f_threads) (f_marks := f_marks) (f_oneMind := f_oneMind) (f_states := f_states) (f_latest := f_latest) (f_matches := f_matches) (f_pieces := f_pieces) (f_template := f_template) (f_result := f_result) (f_spare := f_spare) (cmp := cmp) (ovs := ovs) (PG := PG) (k := sl) hw_ hf_programs (by omega)) (fun oc G2 h => by rcases h with ⟨h, _⟩ | ⟨_, h, _⟩ <;> exact ⟨_, h⟩) (by omega) m_PW_programAt ml_PW_148 im_PW_programAt se_PW_programAt c_PW hw_.2.2 (Nat.le_of_ble_eq_true rfl) d_PW_match_2 rfl ?_
  intro v G5 hq
  rcases hq with ⟨hv, hGe⟩ | ⟨b6, hv, hGe, hq7, hq8⟩
  · cases hv
    rw [hGe]
    change ab_W _ _ _ G 5 [some (vR w_), some (vz sl), some (vz hw), some (vz mch), some (vz p), none, none] [vN] _
    refine ab_astoreN d_PW_match_5 (Nat.le_of_ble_eq_true rfl) (Nat.le_of_ble_eq_true rfl) rfl ?_
    change ab_W _ _ _ G 7 [some (vR w_), some (vz sl), some (vz hw), some (vz mch), some (vz p), some (vN), none] [] _
    refine ab_aloadN d_PW_match_7 rfl ?_
    refine ab_ifnullN (tgt := 30) d_PW_match_9 (by decide) ?_
    refine ab_throw (tx := "no pattern there, or no such how or machine") (by decide) (fun c h => h) cl_PW_109 inst_IA ini_IA tw_PW_113 d_PW_match_30 d_PW_match_33 d_PW_match_34 d_PW_match_36 d_PW_match_39 (by omega) (by omega) (by omega) ?_
    obtain ⟨G9, eG9⟩ : ∃ z : ab_G, z = G ++ [.inr (13, [])] := ⟨_, rfl⟩
    obtain ⟨o10, eo10⟩ : ∃ z : Nat → Nat, z = ol o G.length 99 := ⟨_, rfl⟩
    obtain ⟨a11, ea11⟩ : ∃ z : Nat, z = G.length := ⟨_, rfl⟩
    have hq12 := hf_programs.n0 (by first | decide | omega)
    have ne_a11_w_ : nq a11 w_ := by have hlt := hw_.lt; unfold nq; omega
    have ne_a11_f_spans : nq a11 f_spans := by have hlt := hf_spans.lt; unfold nq; omega
    have ne_a11_17 : nq a11 17 := by have hlt := h17.lt; unfold nq; omega
    have ne_a11_f_latest : nq a11 f_latest := by have hlt := hf_latest.lt; unfold nq; omega
    have ne_a11_f_programs : nq a11 f_programs := by have hlt := hf_programs.lt; unfold nq; omega
    have hw_ := hw_.akeep (k := 99) eG9
    rw [← eo10] at hw_
    have hf_spans := hf_spans.akeep (k := 99) eG9
    rw [← eo10] at hf_spans
    have h17 := h17.akeep (k := 99) eG9
    rw [← eo10] at h17
    have hf_latest := hf_latest.akeep (k := 99) eG9
    rw [← eo10] at hf_latest
    have hf_programs := hf_programs.akeep (k := 99) eG9
    rw [← eo10] at hf_programs
    have hst := (fx.rf (o := o) (S := []) (G := G)).ap (k := 99) eG9
    rw [← eo10] at hst
    have pthI_f_threads := thI.fr hst pthI_f_threads (by decide) (by decide) (by decide) (by decide) (by decide) (by decide) (by decide) (by decide)
    have pmkI_f_marks := mkI.fr hst pmkI_f_marks (by decide) (by decide) (by decide) (by decide)
    have pomI_f_oneMind := omI.fr hst pomI_f_oneMind (by decide) (by decide) (by decide) (by decide) (by decide) (by decide) (by decide) (by decide)
    have pstI_f_states := stI.fr hst pstI_f_states (by decide) (by decide) (by decide) (by decide) (by decide) (by decide) (by decide) (by decide) (by decide)
    have psuI_f_subject := suI.fr hst psuI_f_subject (by decide) (by decide) (by decide) (by decide) (by decide)
    have ppgI_0 := pgI.fr hst ppgI_0  (by simp)
    have ha11 := cc.anew (o := o) 99 eG9 hq12
    rw [← eo10, ← ea11] at ha11
    have hfr := hfr.ap (k := 99) eG9
    rw [← eo10] at hfr
    have hq13 := z_alen eG9
    have hq14 : ab_slots G9 = ab_slots G + 6 := z_asl eG9 hq12
    rw [← ea11, ← eG9]
    rw [hQ]; exact (Or.inl ⟨_, _, rfl, hfr, hw_, hf_spans, hf_latest, pthI_f_threads, pmkI_f_marks, pomI_f_oneMind, pstI_f_states, psuI_f_subject, ppgI_0, (by exact ha11.2.2), (by omega), (by omega)⟩)
  · cases hv
    rw [hGe]
    change ab_W _ _ _ G 5 [some (vR w_), some (vz sl), some (vz hw), some (vz mch), some (vz p), none, none] [vR b6] _
    refine ab_astore d_PW_match_5 (Nat.le_of_ble_eq_true rfl) (Nat.le_of_ble_eq_true rfl) rfl ?_
    change ab_W _ _ _ G 7 [some (vR w_), some (vz sl), some (vz hw), some (vz mch), some (vz p), some (vR b6), none] [] _
    refine ab_aload d_PW_match_7 rfl ?_
    refine ab_ifnull d_PW_match_9 ?_
    refine ab_iload_n d_PW_match_12 rfl ?_
    refine zz_if_lt (tgt := 30) d_PW_match_13 (by decide) (by omega) (fun c15 => ?_) (fun c15 => ?_)
    · refine ab_throw (tx := "no pattern there, or no such how or machine") (by decide) (fun c h => h) cl_PW_109 inst_IA ini_IA tw_PW_113 d_PW_match_30 d_PW_match_33 d_PW_match_34 d_PW_match_36 d_PW_match_39 (by omega) (by omega) (by omega) ?_
      obtain ⟨G16, eG16⟩ : ∃ z : ab_G, z = G ++ [.inr (13, [])] := ⟨_, rfl⟩
      obtain ⟨o17, eo17⟩ : ∃ z : Nat → Nat, z = ol o G.length 99 := ⟨_, rfl⟩
      obtain ⟨a18, ea18⟩ : ∃ z : Nat, z = G.length := ⟨_, rfl⟩
      have hq19 := hf_programs.n0 (by first | decide | omega)
      have ne_a18_w_ : nq a18 w_ := by have hlt := hw_.lt; unfold nq; omega
      have ne_a18_f_spans : nq a18 f_spans := by have hlt := hf_spans.lt; unfold nq; omega
      have ne_a18_17 : nq a18 17 := by have hlt := h17.lt; unfold nq; omega
      have ne_a18_f_latest : nq a18 f_latest := by have hlt := hf_latest.lt; unfold nq; omega
      have ne_a18_f_programs : nq a18 f_programs := by have hlt := hf_programs.lt; unfold nq; omega
      have hw_ := hw_.akeep (k := 99) eG16
      rw [← eo17] at hw_
      have hf_spans := hf_spans.akeep (k := 99) eG16
      rw [← eo17] at hf_spans
      have h17 := h17.akeep (k := 99) eG16
      rw [← eo17] at h17
      have hf_latest := hf_latest.akeep (k := 99) eG16
      rw [← eo17] at hf_latest
      have hf_programs := hf_programs.akeep (k := 99) eG16
      rw [← eo17] at hf_programs
      have hst := (fx.rf (o := o) (S := []) (G := G)).ap (k := 99) eG16
      rw [← eo17] at hst
      have pthI_f_threads := thI.fr hst pthI_f_threads (by decide) (by decide) (by decide) (by decide) (by decide) (by decide) (by decide) (by decide)
      have pmkI_f_marks := mkI.fr hst pmkI_f_marks (by decide) (by decide) (by decide) (by decide)
      have pomI_f_oneMind := omI.fr hst pomI_f_oneMind (by decide) (by decide) (by decide) (by decide) (by decide) (by decide) (by decide) (by decide)
      have pstI_f_states := stI.fr hst pstI_f_states (by decide) (by decide) (by decide) (by decide) (by decide) (by decide) (by decide) (by decide) (by decide)
      have psuI_f_subject := suI.fr hst psuI_f_subject (by decide) (by decide) (by decide) (by decide) (by decide)
      have ppgI_0 := pgI.fr hst ppgI_0  (by simp)
      have ha18 := cc.anew (o := o) 99 eG16 hq19
      rw [← eo17, ← ea18] at ha18
      have hfr := hfr.ap (k := 99) eG16
      rw [← eo17] at hfr
      have hq20 := z_alen eG16
      have hq21 : ab_slots G16 = ab_slots G + 6 := z_asl eG16 hq19
      rw [← ea18, ← eG16]
      rw [hQ]; exact (Or.inl ⟨_, _, rfl, hfr, hw_, hf_spans, hf_latest, pthI_f_threads, pmkI_f_marks, pomI_f_oneMind, pstI_f_states, psuI_f_subject, ppgI_0, (by exact ha18.2.2), (by omega), (by omega)⟩)
    · refine ab_iload_n d_PW_match_16 rfl ?_
      refine zz_iconst d_PW_match_17 ?_
      refine zz_icmp_gt (tgt := 30) d_PW_match_18 (by decide) (by omega) (by decide) (fun c22 => ?_) (fun c22 => ?_)
      · refine ab_throw (tx := "no pattern there, or no such how or machine") (by decide) (fun c h => h) cl_PW_109 inst_IA ini_IA tw_PW_113 d_PW_match_30 d_PW_match_33 d_PW_match_34 d_PW_match_36 d_PW_match_39 (by omega) (by omega) (by omega) ?_
        obtain ⟨G23, eG23⟩ : ∃ z : ab_G, z = G ++ [.inr (13, [])] := ⟨_, rfl⟩
        obtain ⟨o24, eo24⟩ : ∃ z : Nat → Nat, z = ol o G.length 99 := ⟨_, rfl⟩
        obtain ⟨a25, ea25⟩ : ∃ z : Nat, z = G.length := ⟨_, rfl⟩
        have hq26 := hf_programs.n0 (by first | decide | omega)
        have ne_a25_w_ : nq a25 w_ := by have hlt := hw_.lt; unfold nq; omega
        have ne_a25_f_spans : nq a25 f_spans := by have hlt := hf_spans.lt; unfold nq; omega
        have ne_a25_17 : nq a25 17 := by have hlt := h17.lt; unfold nq; omega
        have ne_a25_f_latest : nq a25 f_latest := by have hlt := hf_latest.lt; unfold nq; omega
        have ne_a25_f_programs : nq a25 f_programs := by have hlt := hf_programs.lt; unfold nq; omega
        have hw_ := hw_.akeep (k := 99) eG23
        rw [← eo24] at hw_
        have hf_spans := hf_spans.akeep (k := 99) eG23
        rw [← eo24] at hf_spans
        have h17 := h17.akeep (k := 99) eG23
        rw [← eo24] at h17
        have hf_latest := hf_latest.akeep (k := 99) eG23
        rw [← eo24] at hf_latest
        have hf_programs := hf_programs.akeep (k := 99) eG23
        rw [← eo24] at hf_programs
        have hst := (fx.rf (o := o) (S := []) (G := G)).ap (k := 99) eG23
        rw [← eo24] at hst
        have pthI_f_threads := thI.fr hst pthI_f_threads (by decide) (by decide) (by decide) (by decide) (by decide) (by decide) (by decide) (by decide)
        have pmkI_f_marks := mkI.fr hst pmkI_f_marks (by decide) (by decide) (by decide) (by decide)
        have pomI_f_oneMind := omI.fr hst pomI_f_oneMind (by decide) (by decide) (by decide) (by decide) (by decide) (by decide) (by decide) (by decide)
        have pstI_f_states := stI.fr hst pstI_f_states (by decide) (by decide) (by decide) (by decide) (by decide) (by decide) (by decide) (by decide) (by decide)
        have psuI_f_subject := suI.fr hst psuI_f_subject (by decide) (by decide) (by decide) (by decide) (by decide)
        have ppgI_0 := pgI.fr hst ppgI_0  (by simp)
        have ha25 := cc.anew (o := o) 99 eG23 hq26
        rw [← eo24, ← ea25] at ha25
        have hfr := hfr.ap (k := 99) eG23
        rw [← eo24] at hfr
        have hq27 := z_alen eG23
        have hq28 : ab_slots G23 = ab_slots G + 6 := z_asl eG23 hq26
        rw [← ea25, ← eG23]
        rw [hQ]; exact (Or.inl ⟨_, _, rfl, hfr, hw_, hf_spans, hf_latest, pthI_f_threads, pmkI_f_marks, pomI_f_oneMind, pstI_f_states, psuI_f_subject, ppgI_0, (by exact ha25.2.2), (by omega), (by omega)⟩)
      · refine ab_iload_n d_PW_match_21 rfl ?_
        refine zz_if_lt (tgt := 30) d_PW_match_22 (by decide) (by omega) (fun c29 => ?_) (fun c29 => ?_)
        · refine ab_throw (tx := "no pattern there, or no such how or machine") (by decide) (fun c h => h) cl_PW_109 inst_IA ini_IA tw_PW_113 d_PW_match_30 d_PW_match_33 d_PW_match_34 d_PW_match_36 d_PW_match_39 (by omega) (by omega) (by omega) ?_
          obtain ⟨G30, eG30⟩ : ∃ z : ab_G, z = G ++ [.inr (13, [])] := ⟨_, rfl⟩
          obtain ⟨o31, eo31⟩ : ∃ z : Nat → Nat, z = ol o G.length 99 := ⟨_, rfl⟩
          obtain ⟨a32, ea32⟩ : ∃ z : Nat, z = G.length := ⟨_, rfl⟩
          have hq33 := hf_programs.n0 (by first | decide | omega)
          have ne_a32_w_ : nq a32 w_ := by have hlt := hw_.lt; unfold nq; omega
          have ne_a32_f_spans : nq a32 f_spans := by have hlt := hf_spans.lt; unfold nq; omega
          have ne_a32_17 : nq a32 17 := by have hlt := h17.lt; unfold nq; omega
          have ne_a32_f_latest : nq a32 f_latest := by have hlt := hf_latest.lt; unfold nq; omega
          have ne_a32_f_programs : nq a32 f_programs := by have hlt := hf_programs.lt; unfold nq; omega
          have hw_ := hw_.akeep (k := 99) eG30
          rw [← eo31] at hw_
          have hf_spans := hf_spans.akeep (k := 99) eG30
          rw [← eo31] at hf_spans
          have h17 := h17.akeep (k := 99) eG30
          rw [← eo31] at h17
          have hf_latest := hf_latest.akeep (k := 99) eG30
          rw [← eo31] at hf_latest
          have hf_programs := hf_programs.akeep (k := 99) eG30
          rw [← eo31] at hf_programs
          have hst := (fx.rf (o := o) (S := []) (G := G)).ap (k := 99) eG30
          rw [← eo31] at hst
          have pthI_f_threads := thI.fr hst pthI_f_threads (by decide) (by decide) (by decide) (by decide) (by decide) (by decide) (by decide) (by decide)
          have pmkI_f_marks := mkI.fr hst pmkI_f_marks (by decide) (by decide) (by decide) (by decide)
          have pomI_f_oneMind := omI.fr hst pomI_f_oneMind (by decide) (by decide) (by decide) (by decide) (by decide) (by decide) (by decide) (by decide)
          have pstI_f_states := stI.fr hst pstI_f_states (by decide) (by decide) (by decide) (by decide) (by decide) (by decide) (by decide) (by decide) (by decide)
          have psuI_f_subject := suI.fr hst psuI_f_subject (by decide) (by decide) (by decide) (by decide) (by decide)
          have ppgI_0 := pgI.fr hst ppgI_0  (by simp)
          have ha32 := cc.anew (o := o) 99 eG30 hq33
          rw [← eo31, ← ea32] at ha32
          have hfr := hfr.ap (k := 99) eG30
          rw [← eo31] at hfr
          have hq34 := z_alen eG30
          have hq35 : ab_slots G30 = ab_slots G + 6 := z_asl eG30 hq33
          rw [← ea32, ← eG30]
          rw [hQ]; exact (Or.inl ⟨_, _, rfl, hfr, hw_, hf_spans, hf_latest, pthI_f_threads, pmkI_f_marks, pomI_f_oneMind, pstI_f_states, psuI_f_subject, ppgI_0, (by exact ha32.2.2), (by omega), (by omega)⟩)
        · refine ab_iload_n d_PW_match_25 rfl ?_
          refine zz_iconst d_PW_match_26 ?_
          refine zz_icmp_le (tgt := 40) d_PW_match_27 (by decide) (by omega) (by decide) (fun c36 => ?_) (fun c36 => ?_)
          · refine ab_iload d_PW_match_40 rfl ?_
            refine zz_if_lt (tgt := 57) d_PW_match_42 (by decide) (by omega) (fun c37 => ?_) (fun c37 => ?_)
            · refine ab_throw (tx := "no such place") (by decide) (fun c h => h) cl_PW_109 inst_IA ini_IA tw_PW_113 d_PW_match_57 d_PW_match_60 d_PW_match_61 d_PW_match_63 d_PW_match_66 (by omega) (by omega) (by omega) ?_
              obtain ⟨G38, eG38⟩ : ∃ z : ab_G, z = G ++ [.inr (13, [])] := ⟨_, rfl⟩
              obtain ⟨o39, eo39⟩ : ∃ z : Nat → Nat, z = ol o G.length 99 := ⟨_, rfl⟩
              obtain ⟨a40, ea40⟩ : ∃ z : Nat, z = G.length := ⟨_, rfl⟩
              have hq41 := hf_programs.n0 (by first | decide | omega)
              have ne_a40_w_ : nq a40 w_ := by have hlt := hw_.lt; unfold nq; omega
              have ne_a40_f_spans : nq a40 f_spans := by have hlt := hf_spans.lt; unfold nq; omega
              have ne_a40_17 : nq a40 17 := by have hlt := h17.lt; unfold nq; omega
              have ne_a40_f_latest : nq a40 f_latest := by have hlt := hf_latest.lt; unfold nq; omega
              have ne_a40_f_programs : nq a40 f_programs := by have hlt := hf_programs.lt; unfold nq; omega
              have hw_ := hw_.akeep (k := 99) eG38
              rw [← eo39] at hw_
              have hf_spans := hf_spans.akeep (k := 99) eG38
              rw [← eo39] at hf_spans
              have h17 := h17.akeep (k := 99) eG38
              rw [← eo39] at h17
              have hf_latest := hf_latest.akeep (k := 99) eG38
              rw [← eo39] at hf_latest
              have hf_programs := hf_programs.akeep (k := 99) eG38
              rw [← eo39] at hf_programs
              have hst := (fx.rf (o := o) (S := []) (G := G)).ap (k := 99) eG38
              rw [← eo39] at hst
              have pthI_f_threads := thI.fr hst pthI_f_threads (by decide) (by decide) (by decide) (by decide) (by decide) (by decide) (by decide) (by decide)
              have pmkI_f_marks := mkI.fr hst pmkI_f_marks (by decide) (by decide) (by decide) (by decide)
              have pomI_f_oneMind := omI.fr hst pomI_f_oneMind (by decide) (by decide) (by decide) (by decide) (by decide) (by decide) (by decide) (by decide)
              have pstI_f_states := stI.fr hst pstI_f_states (by decide) (by decide) (by decide) (by decide) (by decide) (by decide) (by decide) (by decide) (by decide)
              have psuI_f_subject := suI.fr hst psuI_f_subject (by decide) (by decide) (by decide) (by decide) (by decide)
              have ppgI_0 := pgI.fr hst ppgI_0  (by simp)
              have ha40 := cc.anew (o := o) 99 eG38 hq41
              rw [← eo39, ← ea40] at ha40
              have hfr := hfr.ap (k := 99) eG38
              rw [← eo39] at hfr
              have hq42 := z_alen eG38
              have hq43 : ab_slots G38 = ab_slots G + 6 := z_asl eG38 hq41
              rw [← ea40, ← eG38]
              rw [hQ]; exact (Or.inl ⟨_, _, rfl, hfr, hw_, hf_spans, hf_latest, pthI_f_threads, pmkI_f_marks, pomI_f_oneMind, pstI_f_states, psuI_f_subject, ppgI_0, (by exact ha40.2.2), (by omega), (by omega)⟩)
            · refine ab_iload d_PW_match_45 rfl ?_
              obtain ⟨by_, co, re, ho, f, C, Rs, H, mc, hf_subject, hby_, hco, hre, hho, csu, hsu⟩ := psuI_f_subject
              refine ab_aload_n d_PW_match_47 rfl ?_
              refine ab_getf (fs := [vR f_ready, vR f_tape, vR f_reader, vR f_programs, vR f_subject, vR f_spans, vR f_threads, vR f_marks, vR f_oneMind, vR f_states, vR f_latest, vR f_matches, vR f_pieces, vR f_template, vR f_result, vR f_spare, vz cmp, vz ovs]) f_PW_38 d_PW_match_48 hw_.2.2 rfl ?_
              refine ab_getf (fs := [vR by_, vR co, vR re, vR ho, vz n]) f_PW_164 d_PW_match_51 hf_subject.2.2 rfl ?_
              refine zz_icmp_le (tgt := 67) d_PW_match_54 (by decide) (by omega) (by omega) (fun c44 => ?_) (fun c44 => ?_)
              · have psuI_f_subject : suI o G f_subject n m := ⟨by_, co, re, ho, f, C, Rs, H, mc, hf_subject, hby_, hco, hre, hho, (by omega), hsu⟩
                have hk_ := hkq.2 (by omega) (by omega)
                rw [← hk_] at hq7
                have hk6_ : k_ < 6 := by omega
                obtain ⟨⟨mi_, sz_, ppgB_b6⟩, ppgX_0⟩ := ppgI_0.opn hk6_ hq7
                refine ab_aload_n d_PW_match_67 rfl ?_
                refine ab_aload d_PW_match_68 rfl ?_
                refine ab_iload_n d_PW_match_70 rfl ?_
                refine ab_iload_n d_PW_match_71 rfl ?_
                refine ab_iload d_PW_match_72 rfl ?_
                refine ab_callV (d' := d - 1) (as := [vR b6, vz hw, vz mch, vz p]) (st := []) (r := _) (z_PW_run (o := o) (w_ := w_) (f_ready := f_ready) (f_tape := f_tape) (f_reader := f_reader) (f_programs := f_programs) (f_subject := f_subject) (f_spans := f_spans) (f_threads := f_threads) (f_marks := f_marks) (f_oneMind := f_oneMind) (f_states := f_states) (f_latest := f_latest) (f_matches := f_matches) (f_pieces := f_pieces) (f_template := f_template) (f_result := f_result) (f_spare := f_spare) (cmp := cmp) (ovs := ovs) (q := b6) (lq := (100 + 10 * k_)) (nr := (NR k_)) (cv := cv) (on := on) (mi := mi_) (nm := nm) (ns := ns) (nt := nt) (n := n) (m := m) (SP := SP) (hw := hw) (mch := mch) (p := p) (stt := 0) (stm := 0) (sto := 0) (sts := 0) (sz := sz_) hw_ hf_spans h17 pthI_f_threads pmkI_f_marks pomI_f_oneMind pstI_f_states psuI_f_subject ppgB_b6 (by omega) (by omega) jsp (by omega) (by omega) (by omega)) (fun oc G2 h => by rcases h with ⟨_, _, _, _, _, _, _, _, _, _, _, _, h, _⟩ <;> exact ⟨_, h⟩) (by omega) m_PW_run ml_PW_171 im_PW_run se_PW_run c_PW hw_.2.2 (Nat.le_of_ble_eq_true rfl) d_PW_match_74 rfl ?_
                intro v G45 hq
                rcases hq with ⟨o46, nm247, ns248, on249, nt250, mi251, SP252, r53, s1_54, s2_55, s3_56, s4_57, hv, hfk, hNf_spans, pNthI_f_threads, pNmkI_f_marks, pNomI_f_oneMind, pNstI_f_states, pNsuI_f_subject, pNpgB_b6, hq58, hq59, hq60, hq61, hq62, hq63⟩
                cases hv
                have hw_ := hfk.get hw_ (by simp only [List.mem_cons, List.not_mem_nil, or_false]; omega)
                have h17 := hfk.get h17 (by simp only [List.mem_cons, List.not_mem_nil, or_false]; omega)
                have hf_latest := hfk.get hf_latest (by simp only [List.mem_cons, List.not_mem_nil, or_false]; omega)
                have hf_programs := hfk.get hf_programs (by simp only [List.mem_cons, List.not_mem_nil, or_false]; omega)
                have ppgX_0 := pgX.fr hfk ppgX_0  (by intro xx hx; simp only [List.mem_cons, List.not_mem_nil, or_false] at hx; omega)
                have pthI_f_threads := pNthI_f_threads
                have pmkI_f_marks := pNmkI_f_marks
                have pomI_f_oneMind := pNomI_f_oneMind
                have pstI_f_states := pNstI_f_states
                have psuI_f_subject := pNsuI_f_subject
                have ppgB_b6 := pNpgB_b6
                have hfr := hfr.tr hfk (by simp)
                have hq64 := hfk.1
                have hf_spans := hNf_spans
                change ab_W _ _ _ G45 77 [some (vR w_), some (vz sl), some (vz hw), some (vz mch), some (vz p), some (vR b6), none] [vz r53] _
                have ppgX_0 := ppgX_0.ong hq63
                refine ab_istore d_PW_match_77 (Nat.le_of_ble_eq_true rfl) (Nat.le_of_ble_eq_true rfl) rfl ?_
                change ab_W _ _ _ G45 79 [some (vR w_), some (vz sl), some (vz hw), some (vz mch), some (vz p), some (vR b6), some (vz r53)] [] _
                obtain ⟨ki_g, ne_g, ot_g, cnt_g, fi_g, la_g, ra_g, ru_g, gr_g, wi_g, fl_g, ve_g, na_g, nl_g, K_g, N_g, O_g, RR_g, NA_g, NL_g, hb6, hki_g, hne_g, hot_g, hra_g, hna_g, hnl_g, cq_g, hpu_g, hp_g, hr_g, hch_g, cru_g, ck9_g, cfi_g, cgr_g, cfl_g, hpo_g, hmi_g, hvc_g, cve_g, jnl_g, csz_g⟩ := ppgB_b6
                refine ab_aload_n d_PW_match_79 rfl ?_
                refine ab_aload d_PW_match_80 rfl ?_
                refine ab_getf (fs := [vR ki_g, vR ne_g, vR ot_g, vz cnt_g, vz fi_g, vz la_g, vR ra_g, vz ru_g, vz gr_g, vz wi_g, vz sz_, vz fl_g, vz ve_g, vz mi251, vR na_g, vR nl_g]) f_PW_152 d_PW_match_82 hb6.2.2 rfl ?_
                refine zz_iconst d_PW_match_85 ?_
                refine ab_callV (d' := d - 1) (as := [vz sz_, vz 1]) (st := []) (r := _) (z_PW_settle (o := o46) (w_ := w_) (f_ready := f_ready) (f_tape := f_tape) (f_reader := f_reader) (f_programs := f_programs) (f_subject := f_subject) (f_spans := f_spans) (f_threads := f_threads) (f_marks := f_marks) (f_oneMind := f_oneMind) (f_states := f_states) (f_latest := f_latest) (f_matches := f_matches) (f_pieces := f_pieces) (f_template := f_template) (f_result := f_result) (f_spare := f_spare) (cmp := cmp) (ovs := ovs) (cv := cv) (on := on249) (nm := nm247) (ns := ns248) (nt := nt250) (n := n) (m := m) (z1 := sz_) (z2 := 1) (stt := s1_54) (stm := s2_55) (sto := s3_56) (sts := s4_57) hw_ pthI_f_threads pmkI_f_marks pomI_f_oneMind pstI_f_states psuI_f_subject (by omega) (by omega) (cmo_1 (by omega) (by omega) (by omega)) (by omega)) (fun oc G2 h => by rcases h with ⟨h, _⟩ <;> exact ⟨_, h⟩) (by omega) m_PW_settle ml_PW_175 im_PW_settle se_PW_settle c_PW hw_.2.2 (Nat.le_of_ble_eq_true rfl) d_PW_match_86 rfl ?_
                intro v G65 hq
                rcases hq with ⟨hv, hfk, hlk, hsk, hNw_, pNthI_f_threads, pNmkI_f_marks, pNomI_f_oneMind, pNstI_f_states, pNsuI_f_subject⟩
                cases hv
                have hf_spans := hfk.get hf_spans (by decide)
                have h17 := hfk.get h17 (by decide)
                have hf_latest := hfk.get hf_latest (by decide)
                have hf_programs := hfk.get hf_programs (by decide)
                have hb6 := hfk.get hb6 (by simp only [List.mem_cons, List.not_mem_nil, or_false]; omega)
                have hki_g := hfk.get hki_g (by simp only [List.mem_cons, List.not_mem_nil, or_false]; omega)
                have hne_g := hfk.get hne_g (by simp only [List.mem_cons, List.not_mem_nil, or_false]; omega)
                have hot_g := hfk.get hot_g (by simp only [List.mem_cons, List.not_mem_nil, or_false]; omega)
                have hra_g := hfk.get hra_g (by simp only [List.mem_cons, List.not_mem_nil, or_false]; omega)
                have hna_g := hfk.get hna_g (by simp only [List.mem_cons, List.not_mem_nil, or_false]; omega)
                have hnl_g := hfk.get hnl_g (by simp only [List.mem_cons, List.not_mem_nil, or_false]; omega)
                have ppgX_0 := pgX.fr hfk ppgX_0 (fun xx hx => Or.inl ((show ∀ y ∈ ([18, 32, 44, 50, 60] : List Nat), y < 100 by decide) xx hx))
                have pthI_f_threads := pNthI_f_threads
                have pmkI_f_marks := pNmkI_f_marks
                have pomI_f_oneMind := pNomI_f_oneMind
                have pstI_f_states := pNstI_f_states
                have psuI_f_subject := pNsuI_f_subject
                have hfr := hfr.tr hfk (by simp)
                have hq66 := hlk
                have hq67 := hsk
                have hw_ := hNw_
                change ab_W _ _ _ G65 89 [some (vR w_), some (vz sl), some (vz hw), some (vz mch), some (vz p), some (vR b6), some (vz r53)] [] _
                refine ab_aload_n d_PW_match_89 rfl ?_
                refine ab_getf (fs := [vR f_ready, vR f_tape, vR f_reader, vR f_programs, vR f_subject, vR f_spans, vR f_threads, vR f_marks, vR f_oneMind, vR f_states, vR f_latest, vR f_matches, vR f_pieces, vR f_template, vR f_result, vR f_spare, vz cmp, vz ovs]) f_PW_73 d_PW_match_90 hw_.2.2 rfl ?_
                refine zz_iconst d_PW_match_93 ?_
                refine ab_callS (d' := d - 1) (as := [vR f_latest, vz (-1)]) (st := []) (z_AR_fill (o := o46) (a := f_latest) (l := 70) (n := 20) (f := LA) (v := (-1)) hf_latest (by have h18 : ab_n0 = 18 := rfl; omega)) (fun oc G2 h => by rcases h with ⟨h, _⟩ <;> exact ⟨_, h⟩) (by omega) m_AR_fill ml_PW_91 st_AR_fill (Nat.le_of_ble_eq_true rfl) d_PW_match_94 rfl ?_
                intro v G68 hq
                rcases hq with ⟨hv, hfk, hlk, hsk, hNf_latest⟩
                cases hv
                have hw_ := hfk.get hw_ (by decide)
                have hf_spans := hfk.get hf_spans (by decide)
                have h17 := hfk.get h17 (by decide)
                have hf_programs := hfk.get hf_programs (by decide)
                have hb6 := hfk.get hb6 (by simp only [List.mem_cons, List.not_mem_nil, or_false]; omega)
                have hki_g := hfk.get hki_g (by simp only [List.mem_cons, List.not_mem_nil, or_false]; omega)
                have hne_g := hfk.get hne_g (by simp only [List.mem_cons, List.not_mem_nil, or_false]; omega)
                have hot_g := hfk.get hot_g (by simp only [List.mem_cons, List.not_mem_nil, or_false]; omega)
                have hra_g := hfk.get hra_g (by simp only [List.mem_cons, List.not_mem_nil, or_false]; omega)
                have hna_g := hfk.get hna_g (by simp only [List.mem_cons, List.not_mem_nil, or_false]; omega)
                have hnl_g := hfk.get hnl_g (by simp only [List.mem_cons, List.not_mem_nil, or_false]; omega)
                have pthI_f_threads := thI.fr hfk pthI_f_threads (by decide) (by decide) (by decide) (by decide) (by decide) (by decide) (by decide) (by decide)
                have pmkI_f_marks := mkI.fr hfk pmkI_f_marks (by decide) (by decide) (by decide) (by decide)
                have pomI_f_oneMind := omI.fr hfk pomI_f_oneMind (by decide) (by decide) (by decide) (by decide) (by decide) (by decide) (by decide) (by decide)
                have pstI_f_states := stI.fr hfk pstI_f_states (by decide) (by decide) (by decide) (by decide) (by decide) (by decide) (by decide) (by decide) (by decide)
                have psuI_f_subject := suI.fr hfk psuI_f_subject (by decide) (by decide) (by decide) (by decide) (by decide)
                have ppgX_0 := pgX.fr hfk ppgX_0 (fun xx hx => Or.inl ((show ∀ y ∈ ([70] : List Nat), y < 100 by decide) xx hx))
                have hfr := hfr.tr hfk (by simp)
                have hq69 := hlk
                have hq70 := hsk
                have hf_latest := hNf_latest
                change ab_W _ _ _ G68 97 [some (vR w_), some (vz sl), some (vz hw), some (vz mch), some (vz p), some (vR b6), some (vz r53)] [] _
                refine ab_iload d_PW_match_97 rfl ?_
                refine zz_iconst d_PW_match_99 ?_
                refine zz_icmp_eq (tgt := 121) d_PW_match_100 (by decide) (by omega) (by decide) (fun c71 => ?_) (fun c71 => ?_)
                · have hmq_ : onq mi251 on249 := hmi_g
                  have ppgB_b6 : pgB o46 G68 b6 (100 + 10 * k_) (NR k_) cv cmp on249 mi251 sz_ := ⟨ki_g, ne_g, ot_g, cnt_g, fi_g, la_g, ra_g, ru_g, gr_g, wi_g, fl_g, ve_g, na_g, nl_g, K_g, N_g, O_g, RR_g, NA_g, NL_g, hb6, hki_g, hne_g, hot_g, hra_g, hna_g, hnl_g, (by omega), hpu_g, hp_g, hr_g, hch_g, (by omega), (by omega), (by omega), (by omega), (by omega), hpo_g, hmq_, (by omega), (by omega), jnl_g, (by omega)⟩
                  have ppgI_0 := ppgX_0.cls hq7 ppgB_b6
                  refine ab_iload d_PW_match_121 rfl ?_
                  refine zz_iret rfl d_PW_match_123 ?_
                  rw [hQ]; exact (Or.inr ⟨_, _, _, _, _, _, _, _, rfl, hfr, hw_, hf_spans, hf_latest, pthI_f_threads, pmkI_f_marks, pomI_f_oneMind, pstI_f_states, psuI_f_subject, ppgI_0, (by exact hq60), (by omega), (by omega), (by exact hq63)⟩)
                · refine ab_aload_n d_PW_match_103 rfl ?_
                  refine ab_getf (fs := [vR f_ready, vR f_tape, vR f_reader, vR f_programs, vR f_subject, vR f_spans, vR f_threads, vR f_marks, vR f_oneMind, vR f_states, vR f_latest, vR f_matches, vR f_pieces, vR f_template, vR f_result, vR f_spare, vz cmp, vz ovs]) f_PW_42 d_PW_match_104 hw_.2.2 rfl ?_
                  refine zz_iconst d_PW_match_107 ?_
                  refine ab_aload_n d_PW_match_108 rfl ?_
                  refine ab_getf (fs := [vR f_ready, vR f_tape, vR f_reader, vR f_programs, vR f_subject, vR f_spans, vR f_threads, vR f_marks, vR f_oneMind, vR f_states, vR f_latest, vR f_matches, vR f_pieces, vR f_template, vR f_result, vR f_spare, vz cmp, vz ovs]) f_PW_73 d_PW_match_109 hw_.2.2 rfl ?_
                  refine zz_iconst d_PW_match_112 ?_
                  refine ab_aload d_PW_match_113 rfl ?_
                  refine ab_getf (fs := [vR ki_g, vR ne_g, vR ot_g, vz cnt_g, vz fi_g, vz la_g, vR ra_g, vz ru_g, vz gr_g, vz wi_g, vz sz_, vz fl_g, vz ve_g, vz mi251, vR na_g, vR nl_g]) f_PW_178 d_PW_match_115 hb6.2.2 rfl ?_
                  refine zz_copy mj_PW_181 d_PW_match_118 hf_spans hf_latest (hf_latest.2.1 (by decide)) (by omega) (Nat.le_of_ble_eq_true rfl) (by omega) ?_
                  obtain ⟨G72, eG72⟩ : ∃ z : ab_G, z = List.set G68 f_latest (za 20 (zcpy SP252 (zfill LA 0 ↑20 (-1)) 0 0 wi_g)) := ⟨_, rfl⟩
                  have hw_ := hw_.keep hf_latest eG72 (by decide)
                  have hf_spans := hf_spans.keep hf_latest eG72 (by decide)
                  have h17 := h17.keep hf_latest eG72 (by decide)
                  have hf_programs := hf_programs.keep hf_latest eG72 (by decide)
                  have hb6 := hb6.keep hf_latest eG72 (by omega)
                  have hki_g := hki_g.keep hf_latest eG72 (by omega)
                  have hne_g := hne_g.keep hf_latest eG72 (by omega)
                  have hot_g := hot_g.keep hf_latest eG72 (by omega)
                  have hra_g := hra_g.keep hf_latest eG72 (by omega)
                  have hna_g := hna_g.keep hf_latest eG72 (by omega)
                  have hnl_g := hnl_g.keep hf_latest eG72 (by omega)
                  have hst := (fx.rf (o := o46) (S := [70]) (G := G68)).wr hf_latest eG72 (List.mem_singleton.mpr rfl)
                  have pthI_f_threads := thI.fr hst pthI_f_threads (by decide) (by decide) (by decide) (by decide) (by decide) (by decide) (by decide) (by decide)
                  have pmkI_f_marks := mkI.fr hst pmkI_f_marks (by decide) (by decide) (by decide) (by decide)
                  have pomI_f_oneMind := omI.fr hst pomI_f_oneMind (by decide) (by decide) (by decide) (by decide) (by decide) (by decide) (by decide) (by decide)
                  have pstI_f_states := stI.fr hst pstI_f_states (by decide) (by decide) (by decide) (by decide) (by decide) (by decide) (by decide) (by decide) (by decide)
                  have psuI_f_subject := suI.fr hst psuI_f_subject (by decide) (by decide) (by decide) (by decide) (by decide)
                  have ppgX_0 := pgX.fr hst ppgX_0 (fun xx hx => Or.inl ((show ∀ y ∈ ([70] : List Nat), y < 100 by decide) xx hx))
                  have hq73 := z_len eG72
                  have hq74 := z_sl hf_latest eG72 rfl
                  have hfr := hfr.wr hf_latest eG72 (by simp)
                  have hf_latest := hf_latest.kept eG72
                  change ab_W _ _ _ (List.set G68 f_latest (za 20 (zcpy SP252 (zfill LA 0 ↑20 (-1)) 0 0 wi_g))) 121 [some (vR w_), some (vz sl), some (vz hw), some (vz mch), some (vz p), some (vR b6), some (vz r53)] [] _
                  rw [← eG72]
                  have hmq_ : onq mi251 on249 := hmi_g
                  have ppgB_b6 : pgB o46 G72 b6 (100 + 10 * k_) (NR k_) cv cmp on249 mi251 sz_ := ⟨ki_g, ne_g, ot_g, cnt_g, fi_g, la_g, ra_g, ru_g, gr_g, wi_g, fl_g, ve_g, na_g, nl_g, K_g, N_g, O_g, RR_g, NA_g, NL_g, hb6, hki_g, hne_g, hot_g, hra_g, hna_g, hnl_g, (by omega), hpu_g, hp_g, hr_g, hch_g, (by omega), (by omega), (by omega), (by omega), (by omega), hpo_g, hmq_, (by omega), (by omega), jnl_g, (by omega)⟩
                  have ppgI_0 := ppgX_0.cls hq7 ppgB_b6
                  refine ab_iload d_PW_match_121 rfl ?_
                  refine zz_iret rfl d_PW_match_123 ?_
                  rw [hQ]; exact (Or.inr ⟨_, _, _, _, _, _, _, _, rfl, hfr, hw_, hf_spans, hf_latest, pthI_f_threads, pmkI_f_marks, pomI_f_oneMind, pstI_f_states, psuI_f_subject, ppgI_0, (by exact hq60), (by omega), (by omega), (by exact hq63)⟩)
              · have psuI_f_subject : suI o G f_subject n m := ⟨by_, co, re, ho, f, C, Rs, H, mc, hf_subject, hby_, hco, hre, hho, (by omega), hsu⟩
                refine ab_throw (tx := "no such place") (by decide) (fun c h => h) cl_PW_109 inst_IA ini_IA tw_PW_113 d_PW_match_57 d_PW_match_60 d_PW_match_61 d_PW_match_63 d_PW_match_66 (by omega) (by omega) (by omega) ?_
                obtain ⟨G75, eG75⟩ : ∃ z : ab_G, z = G ++ [.inr (13, [])] := ⟨_, rfl⟩
                obtain ⟨o76, eo76⟩ : ∃ z : Nat → Nat, z = ol o G.length 99 := ⟨_, rfl⟩
                obtain ⟨a77, ea77⟩ : ∃ z : Nat, z = G.length := ⟨_, rfl⟩
                have hq78 := hf_programs.n0 (by first | decide | omega)
                have ne_a77_w_ : nq a77 w_ := by have hlt := hw_.lt; unfold nq; omega
                have ne_a77_f_spans : nq a77 f_spans := by have hlt := hf_spans.lt; unfold nq; omega
                have ne_a77_17 : nq a77 17 := by have hlt := h17.lt; unfold nq; omega
                have ne_a77_f_latest : nq a77 f_latest := by have hlt := hf_latest.lt; unfold nq; omega
                have ne_a77_f_programs : nq a77 f_programs := by have hlt := hf_programs.lt; unfold nq; omega
                have hw_ := hw_.akeep (k := 99) eG75
                rw [← eo76] at hw_
                have hf_spans := hf_spans.akeep (k := 99) eG75
                rw [← eo76] at hf_spans
                have h17 := h17.akeep (k := 99) eG75
                rw [← eo76] at h17
                have hf_latest := hf_latest.akeep (k := 99) eG75
                rw [← eo76] at hf_latest
                have hf_programs := hf_programs.akeep (k := 99) eG75
                rw [← eo76] at hf_programs
                have hst := (fx.rf (o := o) (S := []) (G := G)).ap (k := 99) eG75
                rw [← eo76] at hst
                have pthI_f_threads := thI.fr hst pthI_f_threads (by decide) (by decide) (by decide) (by decide) (by decide) (by decide) (by decide) (by decide)
                have pmkI_f_marks := mkI.fr hst pmkI_f_marks (by decide) (by decide) (by decide) (by decide)
                have pomI_f_oneMind := omI.fr hst pomI_f_oneMind (by decide) (by decide) (by decide) (by decide) (by decide) (by decide) (by decide) (by decide)
                have pstI_f_states := stI.fr hst pstI_f_states (by decide) (by decide) (by decide) (by decide) (by decide) (by decide) (by decide) (by decide) (by decide)
                have ppgI_0 := pgI.fr hst ppgI_0  (by simp)
                have psuI_f_subject := suI.fr hst psuI_f_subject (by decide) (by decide) (by decide) (by decide) (by decide)
                have ha77 := cc.anew (o := o) 99 eG75 hq78
                rw [← eo76, ← ea77] at ha77
                have hfr := hfr.ap (k := 99) eG75
                rw [← eo76] at hfr
                have hq79 := z_alen eG75
                have hq80 : ab_slots G75 = ab_slots G + 6 := z_asl eG75 hq78
                rw [← ea77, ← eG75]
                rw [hQ]; exact (Or.inl ⟨_, _, rfl, hfr, hw_, hf_spans, hf_latest, pthI_f_threads, pmkI_f_marks, pomI_f_oneMind, pstI_f_states, psuI_f_subject, ppgI_0, (by exact ha77.2.2), (by omega), (by omega)⟩)
          · refine ab_throw (tx := "no pattern there, or no such how or machine") (by decide) (fun c h => h) cl_PW_109 inst_IA ini_IA tw_PW_113 d_PW_match_30 d_PW_match_33 d_PW_match_34 d_PW_match_36 d_PW_match_39 (by omega) (by omega) (by omega) ?_
            obtain ⟨G81, eG81⟩ : ∃ z : ab_G, z = G ++ [.inr (13, [])] := ⟨_, rfl⟩
            obtain ⟨o82, eo82⟩ : ∃ z : Nat → Nat, z = ol o G.length 99 := ⟨_, rfl⟩
            obtain ⟨a83, ea83⟩ : ∃ z : Nat, z = G.length := ⟨_, rfl⟩
            have hq84 := hf_programs.n0 (by first | decide | omega)
            have ne_a83_w_ : nq a83 w_ := by have hlt := hw_.lt; unfold nq; omega
            have ne_a83_f_spans : nq a83 f_spans := by have hlt := hf_spans.lt; unfold nq; omega
            have ne_a83_17 : nq a83 17 := by have hlt := h17.lt; unfold nq; omega
            have ne_a83_f_latest : nq a83 f_latest := by have hlt := hf_latest.lt; unfold nq; omega
            have ne_a83_f_programs : nq a83 f_programs := by have hlt := hf_programs.lt; unfold nq; omega
            have hw_ := hw_.akeep (k := 99) eG81
            rw [← eo82] at hw_
            have hf_spans := hf_spans.akeep (k := 99) eG81
            rw [← eo82] at hf_spans
            have h17 := h17.akeep (k := 99) eG81
            rw [← eo82] at h17
            have hf_latest := hf_latest.akeep (k := 99) eG81
            rw [← eo82] at hf_latest
            have hf_programs := hf_programs.akeep (k := 99) eG81
            rw [← eo82] at hf_programs
            have hst := (fx.rf (o := o) (S := []) (G := G)).ap (k := 99) eG81
            rw [← eo82] at hst
            have pthI_f_threads := thI.fr hst pthI_f_threads (by decide) (by decide) (by decide) (by decide) (by decide) (by decide) (by decide) (by decide)
            have pmkI_f_marks := mkI.fr hst pmkI_f_marks (by decide) (by decide) (by decide) (by decide)
            have pomI_f_oneMind := omI.fr hst pomI_f_oneMind (by decide) (by decide) (by decide) (by decide) (by decide) (by decide) (by decide) (by decide)
            have pstI_f_states := stI.fr hst pstI_f_states (by decide) (by decide) (by decide) (by decide) (by decide) (by decide) (by decide) (by decide) (by decide)
            have psuI_f_subject := suI.fr hst psuI_f_subject (by decide) (by decide) (by decide) (by decide) (by decide)
            have ppgI_0 := pgI.fr hst ppgI_0  (by simp)
            have ha83 := cc.anew (o := o) 99 eG81 hq84
            rw [← eo82, ← ea83] at ha83
            have hfr := hfr.ap (k := 99) eG81
            rw [← eo82] at hfr
            have hq85 := z_alen eG81
            have hq86 : ab_slots G81 = ab_slots G + 6 := z_asl eG81 hq84
            rw [← ea83, ← eG81]
            rw [hQ]; exact (Or.inl ⟨_, _, rfl, hfr, hw_, hf_spans, hf_latest, pthI_f_threads, pmkI_f_marks, pomI_f_oneMind, pstI_f_states, psuI_f_subject, ppgI_0, (by exact ha83.2.2), (by omega), (by omega)⟩)
set_option maxRecDepth 100000 in
set_option maxHeartbeats 4000000 in
theorem z_PW_hunt {X : ab_X} {d : Nat} {o : Nat → Nat} {G : ab_G} {w_ : Nat} {f_ready : Nat} {f_tape : Nat} {f_reader : Nat} {f_programs : Nat} {f_subject : Nat} {f_spans : Nat} {f_threads : Nat} {f_marks : Nat} {f_oneMind : Nat} {f_states : Nat} {f_latest : Nat} {f_matches : Nat} {f_pieces : Nat} {f_template : Nat} {f_result : Nat} {f_spare : Nat} {cmp : Int} {ovs : Int} {q : Nat} {lq : Nat} {ki : Nat} {ne : Nat} {ot : Nat} {cnt : Int} {fi : Int} {la : Int} {ra : Nat} {ru : Int} {gr : Int} {wi : Int} {sz : Int} {fl : Int} {ve : Int} {mi : Int} {K : Int → Int} {N : Int → Int} {O : Int → Int} {RR : Int → Int} {nr : Nat} {na : Nat} {nl : Nat} {nm : Nat} {ns : Nat} {n : Int} {m : Nat} {SP : Int → Int} {by_ : Nat} {co : Nat} {re : Nat} {ho : Nat} {f : Int → Int} {C : Int → Int} {Rs : Int → Int} {H : Int → Int} {mc : Nat} {bf : Int} {stm : Int} {un : Int} (hw_ : cc o G w_ 18 (ab_ob 0 [vR f_ready, vR f_tape, vR f_reader, vR f_programs, vR f_subject, vR f_spans, vR f_threads, vR f_marks, vR f_oneMind, vR f_states, vR f_latest, vR f_matches, vR f_pieces, vR f_template, vR f_result, vR f_spare, vz cmp, vz ovs])) (hf_spans : cc o G f_spans 31 (za 20 SP)) (hq : cc o G q lq (ab_ob 5 [vR ki, vR ne, vR ot, vz cnt, vz fi, vz la, vR ra, vz ru, vz gr, vz wi, vz sz, vz fl, vz ve, vz mi, vR na, vR nl])) (hki : cc o G ki (lq + 1) (za 808 K)) (hne : cc o G ne (lq + 2) (za 808 N)) (hot : cc o G ot (lq + 3) (za 808 O)) (hra : cc o G ra (lq + 4) (za nr RR)) (hf_subject : cc o G f_subject 26 (ab_ob 9 [vR by_, vR co, vR re, vR ho, vz n])) (hco : cc o G co 28 (za mc C)) (hre : cc o G re 29 (za mc Rs)) (hho : cc o G ho 30 (za mc H)) (pmkB_f_marks : mkB o G f_marks q f_subject f_spans nm ns cnt n stm un) (n18 : ab_n0 = 18) (cq : 100 ≤ lq ∧ 2 ≤ cnt ∧ cnt ≤ 808 ∧ ↑nr ≤ (100000 : Int)) (hp : prok K N O RR cnt ↑nr wi) (hr : ∀ k : Int, 0 ≤ k → k < ↑nr → 0 ≤ RR k ∧ RR k ≤ 1114111) (cfi : 0 ≤ fi ∧ fi < cnt) (cwi : 2 ≤ wi ∧ wi ≤ 20) (csu : 0 ≤ n ∧ n ≤ ↑m ∧ 32 ≤ m ∧ m ≤ 2000 ∧ mc = m + 1) (hsu : suok f C Rs H n) (jsp : rgs SP 20 (-1) 2000) (cbf : -1 ≤ bf ∧ bf ≤ n) (rc : G.length + 5 ≤ ab_n0 + room_1.cells + stC ns) (rs : ab_slots G + 1916393 ≤ room_1.slots + stT ns) (hd : 10 ≤ d) : ab_F X d y_PW_hunt (.code y_PW_hunt b_PW_hunt 3 (some (.boolean))) [vR w_, vz bf] G (fun oc G2 => (∃ o2 : Nat → Nat, ∃ ns2 : Nat, ∃ SP2 : Int → Int, ∃ sm2 : Int, ∃ un2 : Int, oc = .returned (some (vz 0)) ∧ fx o o2 [31, 44, 45, 46, 47] G G2 ∧ cc o2 G2 f_spans 31 (za 20 SP2) ∧ mkB o2 G2 f_marks q f_subject f_spans nm ns2 cnt n sm2 un2 ∧ (stm ≤ sm2 ∧ sm2 + 2 * un2 ≤ stm + 2 * un + 2 * n + 3330) ∧ (rgs SP2 20 (-1) 2000) ∧ (G2.length + stC ns = G.length + stC ns2) ∧ (ab_slots G2 + stT ns = ab_slots G + stT ns2)) ∨ (∃ o2 : Nat → Nat, ∃ ns2 : Nat, ∃ SP2 : Int → Int, ∃ sm2 : Int, ∃ un2 : Int, oc = .returned (some (vz 1)) ∧ fx o o2 [31, 44, 45, 46, 47] G G2 ∧ cc o2 G2 f_spans 31 (za 20 SP2) ∧ mkB o2 G2 f_marks q f_subject f_spans nm ns2 cnt n sm2 un2 ∧ (stm ≤ sm2 ∧ sm2 + 2 * un2 ≤ stm + 2 * un + 2 * n + 3330) ∧ (rgs SP2 20 (-1) 2000) ∧ (G2.length + stC ns = G.length + stC ns2) ∧ (ab_slots G2 + stT ns = ab_slots G + stT ns2) ∧ (rgs SP2 wi (-1) n) ∧ (0 ≤ SP2 0 ∧ SP2 1 ≤ n ∧ 0 ≤ SP2 1))) := by
  refine ab_F_of (by decide +kernel) (Nat.le_of_ble_eq_true rfl) ?_
  obtain ⟨Q, hQ⟩ : ∃ z : Outcome → ab_G → Prop, z = (fun oc G2 => (∃ o2 : Nat → Nat, ∃ ns2 : Nat, ∃ SP2 : Int → Int, ∃ sm2 : Int, ∃ un2 : Int, oc = .returned (some (vz 0)) ∧ fx o o2 [31, 44, 45, 46, 47] G G2 ∧ cc o2 G2 f_spans 31 (za 20 SP2) ∧ mkB o2 G2 f_marks q f_subject f_spans nm ns2 cnt n sm2 un2 ∧ (stm ≤ sm2 ∧ sm2 + 2 * un2 ≤ stm + 2 * un + 2 * n + 3330) ∧ (rgs SP2 20 (-1) 2000) ∧ (G2.length + stC ns = G.length + stC ns2) ∧ (ab_slots G2 + stT ns = ab_slots G + stT ns2)) ∨ (∃ o2 : Nat → Nat, ∃ ns2 : Nat, ∃ SP2 : Int → Int, ∃ sm2 : Int, ∃ un2 : Int, oc = .returned (some (vz 1)) ∧ fx o o2 [31, 44, 45, 46, 47] G G2 ∧ cc o2 G2 f_spans 31 (za 20 SP2) ∧ mkB o2 G2 f_marks q f_subject f_spans nm ns2 cnt n sm2 un2 ∧ (stm ≤ sm2 ∧ sm2 + 2 * un2 ≤ stm + 2 * un + 2 * n + 3330) ∧ (rgs SP2 20 (-1) 2000) ∧ (G2.length + stC ns = G.length + stC ns2) ∧ (ab_slots G2 + stT ns = ab_slots G + stT ns2) ∧ (rgs SP2 wi (-1) n) ∧ (0 ≤ SP2 0 ∧ SP2 1 ≤ n ∧ 0 ≤ SP2 1))) := ⟨_, rfl⟩
  rw [← hQ]
  change ab_W X (ab_pl y_PW_hunt b_PW_hunt 3 (some (.boolean))) d G 0 [some (vR w_), some (vz bf), none] [] Q
  have hfr : fx o o [31, 44, 45, 46, 47] G G := fx.rf
  refine ab_aload_n d_PW_hunt_0 rfl ?_
  refine ab_getf (fs := [vR f_ready, vR f_tape, vR f_reader, vR f_programs, vR f_subject, vR f_spans, vR f_threads, vR f_marks, vR f_oneMind, vR f_states, vR f_latest, vR f_matches, vR f_pieces, vR f_template, vR f_result, vR f_spare, vz cmp, vz ovs]) f_PW_55 d_PW_hunt_1 hw_.2.2 rfl ?_
  refine ab_iload_n d_PW_hunt_4 rfl ?_
  refine zz_iconst d_PW_hunt_5 ?_
  refine zz_mmax2 mj_PW_213 d_PW_hunt_6 (by omega) (by decide) (Nat.le_of_ble_eq_true rfl) (by omega) (fun c1 => ?_) (fun c1 => ?_)
  · obtain ⟨wk_k, mk_k, stk_k, w_k, df_k, dp_k, fo_k, fy_k, hw_k, WK_k, M_k, SK_k, hf_marks, hwk_k, hmk_k, hstk_k, cn_k, hst_k, cf_k, cw_k, cm_k, cd_k, cst0_k, hun_k⟩ := pmkB_f_marks
    refine ab_callV (d' := d - 1) (as := [vz 0]) (st := []) (r := _) (z_MK_find (o := o) (q := q) (lq := lq) (ki := ki) (ne := ne) (ot := ot) (cnt := cnt) (fi := fi) (la := la) (ra := ra) (ru := ru) (gr := gr) (wi := wi) (sz := sz) (fl := fl) (ve := ve) (mi := mi) (na := na) (nl := nl) (K := K) (N := N) (O := O) (RR := RR) (nr := nr) (s := f_subject) (by_ := by_) (co := co) (re := re) (ho := ho) (n := n) (C := C) (Rs := Rs) (H := H) (mc := mc) (a := f_marks) (sp := f_spans) (wk := wk_k) (mk := mk_k) (stk := stk_k) (w := w_k) (df := df_k) (dp := dp_k) (fo := fo_k) (fy := fy_k) (hw := hw_k) (stp := stm) (SP := SP) (WK := WK_k) (M := M_k) (SK := SK_k) (nm := nm) (ns := ns) (p := 0) hf_marks hf_spans hwk_k hmk_k hstk_k hq hki hne hot hra hf_subject hco hre hho (by omega) hp hr (by omega) hsu (by omega) (by omega) (by omega) (by omega) (by omega) (by omega) hst_k (by omega) (by omega) jsp (by omega) (by omega) (by omega)) (fun oc G2 h => by rcases h with ⟨_, _, _, _, _, _, _, _, _, _, _, h, _⟩ | ⟨_, _, _, _, _, _, _, _, _, _, _, _, h, _⟩ <;> exact ⟨_, h⟩) (by omega) m_MK_find ml_PW_251 im_MK_find se_MK_find c_MK hf_marks.2.2 (Nat.le_of_ble_eq_true rfl) d_PW_hunt_9 rfl ?_
    intro v G2 hq
    rcases hq with ⟨o3, df24, dp25, fo26, st27, sk28, ns29, WK210, M211, SK212, SP213, hv, hfk, hNf_marks, hNf_spans, hNwk_k, hNmk_k, hNsk28, hq14, hq15, hq16, hq17, hq18, hq19, hq20, hq21⟩ | ⟨o22, df223, dp224, fo225, st226, sk227, ns228, WK229, M230, SK231, SP232, r33, hv, hfk, hNf_marks, hNf_spans, hNwk_k, hNmk_k, hNsk227, hq34, hq35, hq36, hq37, hq38, hq39, hq40, hq41, hq42, hq43, hq44, hq45⟩
    · cases hv
      have hw_ := hfk.get hw_ (by decide)
      have hq := hfk.get hq (by simp only [List.mem_cons, List.not_mem_nil, or_false]; omega)
      have hki := hfk.get hki (by simp only [List.mem_cons, List.not_mem_nil, or_false]; omega)
      have hne := hfk.get hne (by simp only [List.mem_cons, List.not_mem_nil, or_false]; omega)
      have hot := hfk.get hot (by simp only [List.mem_cons, List.not_mem_nil, or_false]; omega)
      have hra := hfk.get hra (by simp only [List.mem_cons, List.not_mem_nil, or_false]; omega)
      have hf_subject := hfk.get hf_subject (by decide)
      have hco := hfk.get hco (by decide)
      have hre := hfk.get hre (by decide)
      have hho := hfk.get hho (by decide)
      have hfr := hfr.tr hfk (by decide)
      have hq46 := hfk.1
      have hf_marks := hNf_marks
      have hf_spans := hNf_spans
      have hwk_k := hNwk_k
      have hmk_k := hNmk_k
      have hsk28 := hNsk28
      change ab_W _ _ _ G2 12 [some (vR w_), some (vz bf), none] [vz (-1)] _
      refine ab_istore_n d_PW_hunt_12 (Nat.le_of_ble_eq_true rfl) (Nat.le_of_ble_eq_true rfl) rfl ?_
      change ab_W _ _ _ G2 13 [some (vR w_), some (vz bf), some (vz (-1))] [] _
      refine ab_iload_n d_PW_hunt_13 rfl ?_
      refine zz_iconst d_PW_hunt_14 ?_
      refine zz_icmp_eq (tgt := 59) d_PW_hunt_15 (by decide) (by decide) (by decide) (fun c48 => ?_) (fun c48 => absurd c48 (by decide))
      refine ab_iload_n d_PW_hunt_59 rfl ?_
      refine zz_iconst d_PW_hunt_60 ?_
      refine zz_icmp_eq (tgt := 68) d_PW_hunt_61 (by decide) (by decide) (by decide) (fun c49 => ?_) (fun c49 => absurd c49 (by decide))
      refine zz_iconst d_PW_hunt_68 ?_
      have pmkB_f_marks : mkB o3 G2 f_marks q f_subject f_spans nm ns29 cnt n st27 (ucn M211 w_k df24 n) := ⟨wk_k, mk_k, sk28, w_k, df24, dp25, fo26, fy_k, hw_k, WK210, M211, SK212, hf_marks, hwk_k, hmk_k, hsk28, (by omega), hq15, (by omega), (by omega), (by omega), (by omega), (by omega), (by omega)⟩
      refine zz_bret rfl (by decide) d_PW_hunt_69 ?_
      rw [hQ]; exact (Or.inl ⟨_, _, _, _, _, rfl, hfr, hf_spans, pmkB_f_marks, (by omega), (by exact hq17), (by omega), (by omega)⟩)
    · cases hv
      have hw_ := hfk.get hw_ (by decide)
      have hq := hfk.get hq (by simp only [List.mem_cons, List.not_mem_nil, or_false]; omega)
      have hki := hfk.get hki (by simp only [List.mem_cons, List.not_mem_nil, or_false]; omega)
      have hne := hfk.get hne (by simp only [List.mem_cons, List.not_mem_nil, or_false]; omega)
      have hot := hfk.get hot (by simp only [List.mem_cons, List.not_mem_nil, or_false]; omega)
      have hra := hfk.get hra (by simp only [List.mem_cons, List.not_mem_nil, or_false]; omega)
      have hf_subject := hfk.get hf_subject (by decide)
      have hco := hfk.get hco (by decide)
      have hre := hfk.get hre (by decide)
      have hho := hfk.get hho (by decide)
      have hfr := hfr.tr hfk (by decide)
      have hq47 := hfk.1
      have hf_marks := hNf_marks
      have hf_spans := hNf_spans
      have hwk_k := hNwk_k
      have hmk_k := hNmk_k
      have hsk227 := hNsk227
      change ab_W _ _ _ G2 12 [some (vR w_), some (vz bf), none] [vz r33] _
      refine ab_istore_n d_PW_hunt_12 (Nat.le_of_ble_eq_true rfl) (Nat.le_of_ble_eq_true rfl) rfl ?_
      change ab_W _ _ _ G2 13 [some (vR w_), some (vz bf), some (vz r33)] [] _
      refine ab_iload_n d_PW_hunt_13 rfl ?_
      refine zz_iconst d_PW_hunt_14 ?_
      refine zz_icmp_eq (tgt := 59) d_PW_hunt_15 (by decide) (by omega) (by decide) (fun c50 => absurd c50 (by omega)) (fun c50 => ?_)
      refine ab_iload_n d_PW_hunt_18 rfl ?_
      refine ab_iload_n d_PW_hunt_19 rfl ?_
      refine zz_icmp_ne (tgt := 59) d_PW_hunt_20 (by decide) (by omega) (by omega) (fun c51 => ?_) (fun c51 => ?_)
      · refine ab_iload_n d_PW_hunt_59 rfl ?_
        refine zz_iconst d_PW_hunt_60 ?_
        refine zz_icmp_eq (tgt := 68) d_PW_hunt_61 (by decide) (by omega) (by decide) (fun c52 => absurd c52 (by omega)) (fun c52 => ?_)
        refine zz_iconst d_PW_hunt_64 ?_
        refine ab_goto (tgt := 69) d_PW_hunt_65 (by decide) ?_
        have pmkB_f_marks : mkB o22 G2 f_marks q f_subject f_spans nm ns228 cnt n st226 (ucn M230 w_k df223 n) := ⟨wk_k, mk_k, sk227, w_k, df223, dp224, fo225, fy_k, hw_k, WK229, M230, SK231, hf_marks, hwk_k, hmk_k, hsk227, (by omega), hq35, (by omega), (by omega), (by omega), (by omega), (by omega), (by omega)⟩
        refine zz_bret rfl (by decide) d_PW_hunt_69 ?_
        rw [hQ]; exact (Or.inr ⟨_, _, _, _, _, rfl, hfr, hf_spans, pmkB_f_marks, (by omega), (by exact hq37), (by omega), (by omega), (by exact hq44), (by have t1 := hq44 1 (by omega) (by omega); have t2 := hq45; omega)⟩)
      · have hs0_ := hq37 0 (by omega) (by omega)
        refine ab_aload_n d_PW_hunt_23 rfl ?_
        refine ab_getf (fs := [vR f_ready, vR f_tape, vR f_reader, vR f_programs, vR f_subject, vR f_spans, vR f_threads, vR f_marks, vR f_oneMind, vR f_states, vR f_latest, vR f_matches, vR f_pieces, vR f_template, vR f_result, vR f_spare, vz cmp, vz ovs]) f_PW_42 d_PW_hunt_24 hw_.2.2 rfl ?_
        refine zz_iconst d_PW_hunt_27 ?_
        refine zz_iald d_PW_hunt_28 hf_spans (by omega) ?_
        refine ab_iload_n d_PW_hunt_29 rfl ?_
        refine zz_icmp_ne (tgt := 59) d_PW_hunt_30 (by decide) (by omega) (by omega) (fun c53 => ?_) (fun c53 => ?_)
        · refine ab_iload_n d_PW_hunt_59 rfl ?_
          refine zz_iconst d_PW_hunt_60 ?_
          refine zz_icmp_eq (tgt := 68) d_PW_hunt_61 (by decide) (by omega) (by decide) (fun c54 => absurd c54 (by omega)) (fun c54 => ?_)
          refine zz_iconst d_PW_hunt_64 ?_
          refine ab_goto (tgt := 69) d_PW_hunt_65 (by decide) ?_
          have pmkB_f_marks : mkB o22 G2 f_marks q f_subject f_spans nm ns228 cnt n st226 (ucn M230 w_k df223 n) := ⟨wk_k, mk_k, sk227, w_k, df223, dp224, fo225, fy_k, hw_k, WK229, M230, SK231, hf_marks, hwk_k, hmk_k, hsk227, (by omega), hq35, (by omega), (by omega), (by omega), (by omega), (by omega), (by omega)⟩
          refine zz_bret rfl (by decide) d_PW_hunt_69 ?_
          rw [hQ]; exact (Or.inr ⟨_, _, _, _, _, rfl, hfr, hf_spans, pmkB_f_marks, (by omega), (by exact hq37), (by omega), (by omega), (by exact hq44), (by have t1 := hq44 1 (by omega) (by omega); have t2 := hq45; omega)⟩)
        · refine ab_iload_n d_PW_hunt_33 rfl ?_
          refine ab_aload_n d_PW_hunt_34 rfl ?_
          refine ab_getf (fs := [vR f_ready, vR f_tape, vR f_reader, vR f_programs, vR f_subject, vR f_spans, vR f_threads, vR f_marks, vR f_oneMind, vR f_states, vR f_latest, vR f_matches, vR f_pieces, vR f_template, vR f_result, vR f_spare, vz cmp, vz ovs]) f_PW_38 d_PW_hunt_35 hw_.2.2 rfl ?_
          refine ab_getf (fs := [vR by_, vR co, vR re, vR ho, vz n]) f_PW_164 d_PW_hunt_38 hf_subject.2.2 rfl ?_
          refine zz_icmp_ge (tgt := 57) d_PW_hunt_41 (by decide) (by omega) (by omega) (fun c55 => ?_) (fun c55 => ?_)
          · refine zz_iconst d_PW_hunt_57 ?_
            refine ab_istore_n d_PW_hunt_58 (Nat.le_of_ble_eq_true rfl) (Nat.le_of_ble_eq_true rfl) rfl ?_
            change ab_W _ _ _ G2 59 [some (vR w_), some (vz bf), some (vz (-1))] [] _
            refine ab_iload_n d_PW_hunt_59 rfl ?_
            refine zz_iconst d_PW_hunt_60 ?_
            refine zz_icmp_eq (tgt := 68) d_PW_hunt_61 (by decide) (by decide) (by decide) (fun c56 => ?_) (fun c56 => absurd c56 (by decide))
            refine zz_iconst d_PW_hunt_68 ?_
            have pmkB_f_marks : mkB o22 G2 f_marks q f_subject f_spans nm ns228 cnt n st226 (ucn M230 w_k df223 n) := ⟨wk_k, mk_k, sk227, w_k, df223, dp224, fo225, fy_k, hw_k, WK229, M230, SK231, hf_marks, hwk_k, hmk_k, hsk227, (by omega), hq35, (by omega), (by omega), (by omega), (by omega), (by omega), (by omega)⟩
            refine zz_bret rfl (by decide) d_PW_hunt_69 ?_
            rw [hQ]; exact (Or.inl ⟨_, _, _, _, _, rfl, hfr, hf_spans, pmkB_f_marks, (by omega), (by exact hq37), (by omega), (by omega)⟩)
          · refine ab_aload_n d_PW_hunt_44 rfl ?_
            refine ab_getf (fs := [vR f_ready, vR f_tape, vR f_reader, vR f_programs, vR f_subject, vR f_spans, vR f_threads, vR f_marks, vR f_oneMind, vR f_states, vR f_latest, vR f_matches, vR f_pieces, vR f_template, vR f_result, vR f_spare, vz cmp, vz ovs]) f_PW_55 d_PW_hunt_45 hw_.2.2 rfl ?_
            refine ab_iload_n d_PW_hunt_48 rfl ?_
            refine zz_iconst d_PW_hunt_49 ?_
            refine zz_iadd d_PW_hunt_50 ?_
            refine ab_callV (d' := d - 1) (as := [vz (bf + 1)]) (st := []) (r := _) (z_MK_find (o := o22) (q := q) (lq := lq) (ki := ki) (ne := ne) (ot := ot) (cnt := cnt) (fi := fi) (la := la) (ra := ra) (ru := ru) (gr := gr) (wi := wi) (sz := sz) (fl := fl) (ve := ve) (mi := mi) (na := na) (nl := nl) (K := K) (N := N) (O := O) (RR := RR) (nr := nr) (s := f_subject) (by_ := by_) (co := co) (re := re) (ho := ho) (n := n) (C := C) (Rs := Rs) (H := H) (mc := mc) (a := f_marks) (sp := f_spans) (wk := wk_k) (mk := mk_k) (stk := sk227) (w := w_k) (df := df223) (dp := dp224) (fo := fo225) (fy := fy_k) (hw := hw_k) (stp := st226) (SP := SP232) (WK := WK229) (M := M230) (SK := SK231) (nm := nm) (ns := ns228) (p := (bf + 1)) hf_marks hf_spans hwk_k hmk_k hsk227 hq hki hne hot hra hf_subject hco hre hho (by omega) hp hr (by omega) hsu (by omega) (by omega) (by omega) (by omega) (by omega) (by omega) hq35 (by omega) (by omega) hq37 (by omega) (by omega) (by omega)) (fun oc G2 h => by rcases h with ⟨_, _, _, _, _, _, _, _, _, _, _, h, _⟩ | ⟨_, _, _, _, _, _, _, _, _, _, _, _, h, _⟩ <;> exact ⟨_, h⟩) (by omega) m_MK_find ml_PW_251 im_MK_find se_MK_find c_MK hf_marks.2.2 (Nat.le_of_ble_eq_true rfl) d_PW_hunt_51 rfl ?_
            intro v G57 hq
            rcases hq with ⟨o58, df259, dp260, fo261, st262, sk263, ns264, WK265, M266, SK267, SP268, hv, hfk, hNf_marks, hNf_spans, hNwk_k, hNmk_k, hNsk263, hq69, hq70, hq71, hq72, hq73, hq74, hq75, hq76⟩ | ⟨o77, df278, dp279, fo280, st281, sk282, ns283, WK284, M285, SK286, SP287, r88, hv, hfk, hNf_marks, hNf_spans, hNwk_k, hNmk_k, hNsk282, hq89, hq90, hq91, hq92, hq93, hq94, hq95, hq96, hq97, hq98, hq99, hq100⟩
            · cases hv
              have hw_ := hfk.get hw_ (by decide)
              have hq := hfk.get hq (by simp only [List.mem_cons, List.not_mem_nil, or_false]; omega)
              have hki := hfk.get hki (by simp only [List.mem_cons, List.not_mem_nil, or_false]; omega)
              have hne := hfk.get hne (by simp only [List.mem_cons, List.not_mem_nil, or_false]; omega)
              have hot := hfk.get hot (by simp only [List.mem_cons, List.not_mem_nil, or_false]; omega)
              have hra := hfk.get hra (by simp only [List.mem_cons, List.not_mem_nil, or_false]; omega)
              have hf_subject := hfk.get hf_subject (by decide)
              have hco := hfk.get hco (by decide)
              have hre := hfk.get hre (by decide)
              have hho := hfk.get hho (by decide)
              have hfr := hfr.tr hfk (by decide)
              have hq101 := hfk.1
              have hf_marks := hNf_marks
              have hf_spans := hNf_spans
              have hwk_k := hNwk_k
              have hmk_k := hNmk_k
              have hsk263 := hNsk263
              change ab_W _ _ _ G57 54 [some (vR w_), some (vz bf), some (vz r33)] [vz (-1)] _
              refine ab_goto (tgt := 58) d_PW_hunt_54 (by decide) ?_
              refine ab_istore_n d_PW_hunt_58 (Nat.le_of_ble_eq_true rfl) (Nat.le_of_ble_eq_true rfl) rfl ?_
              change ab_W _ _ _ G57 59 [some (vR w_), some (vz bf), some (vz (-1))] [] _
              refine ab_iload_n d_PW_hunt_59 rfl ?_
              refine zz_iconst d_PW_hunt_60 ?_
              refine zz_icmp_eq (tgt := 68) d_PW_hunt_61 (by decide) (by decide) (by decide) (fun c103 => ?_) (fun c103 => absurd c103 (by decide))
              refine zz_iconst d_PW_hunt_68 ?_
              have pmkB_f_marks : mkB o58 G57 f_marks q f_subject f_spans nm ns264 cnt n st262 (ucn M266 w_k df259 n) := ⟨wk_k, mk_k, sk263, w_k, df259, dp260, fo261, fy_k, hw_k, WK265, M266, SK267, hf_marks, hwk_k, hmk_k, hsk263, (by omega), hq70, (by omega), (by omega), (by omega), (by omega), (by omega), (by omega)⟩
              refine zz_bret rfl (by decide) d_PW_hunt_69 ?_
              rw [hQ]; exact (Or.inl ⟨_, _, _, _, _, rfl, hfr, hf_spans, pmkB_f_marks, (by omega), (by exact hq72), (by omega), (by omega)⟩)
            · cases hv
              have hw_ := hfk.get hw_ (by decide)
              have hq := hfk.get hq (by simp only [List.mem_cons, List.not_mem_nil, or_false]; omega)
              have hki := hfk.get hki (by simp only [List.mem_cons, List.not_mem_nil, or_false]; omega)
              have hne := hfk.get hne (by simp only [List.mem_cons, List.not_mem_nil, or_false]; omega)
              have hot := hfk.get hot (by simp only [List.mem_cons, List.not_mem_nil, or_false]; omega)
              have hra := hfk.get hra (by simp only [List.mem_cons, List.not_mem_nil, or_false]; omega)
              have hf_subject := hfk.get hf_subject (by decide)
              have hco := hfk.get hco (by decide)
              have hre := hfk.get hre (by decide)
              have hho := hfk.get hho (by decide)
              have hfr := hfr.tr hfk (by decide)
              have hq102 := hfk.1
              have hf_marks := hNf_marks
              have hf_spans := hNf_spans
              have hwk_k := hNwk_k
              have hmk_k := hNmk_k
              have hsk282 := hNsk282
              change ab_W _ _ _ G57 54 [some (vR w_), some (vz bf), some (vz r33)] [vz r88] _
              refine ab_goto (tgt := 58) d_PW_hunt_54 (by decide) ?_
              refine ab_istore_n d_PW_hunt_58 (Nat.le_of_ble_eq_true rfl) (Nat.le_of_ble_eq_true rfl) rfl ?_
              change ab_W _ _ _ G57 59 [some (vR w_), some (vz bf), some (vz r88)] [] _
              refine ab_iload_n d_PW_hunt_59 rfl ?_
              refine zz_iconst d_PW_hunt_60 ?_
              refine zz_icmp_eq (tgt := 68) d_PW_hunt_61 (by decide) (by omega) (by decide) (fun c104 => absurd c104 (by omega)) (fun c104 => ?_)
              refine zz_iconst d_PW_hunt_64 ?_
              refine ab_goto (tgt := 69) d_PW_hunt_65 (by decide) ?_
              have pmkB_f_marks : mkB o77 G57 f_marks q f_subject f_spans nm ns283 cnt n st281 (ucn M285 w_k df278 n) := ⟨wk_k, mk_k, sk282, w_k, df278, dp279, fo280, fy_k, hw_k, WK284, M285, SK286, hf_marks, hwk_k, hmk_k, hsk282, (by omega), hq90, (by omega), (by omega), (by omega), (by omega), (by omega), (by omega)⟩
              refine zz_bret rfl (by decide) d_PW_hunt_69 ?_
              rw [hQ]; exact (Or.inr ⟨_, _, _, _, _, rfl, hfr, hf_spans, pmkB_f_marks, (by omega), (by exact hq92), (by omega), (by omega), (by exact hq99), (by have t1 := hq99 1 (by omega) (by omega); have t2 := hq100; omega)⟩)
  · obtain ⟨wk_k, mk_k, stk_k, w_k, df_k, dp_k, fo_k, fy_k, hw_k, WK_k, M_k, SK_k, hf_marks, hwk_k, hmk_k, hstk_k, cn_k, hst_k, cf_k, cw_k, cm_k, cd_k, cst0_k, hun_k⟩ := pmkB_f_marks
    refine ab_callV (d' := d - 1) (as := [vz bf]) (st := []) (r := _) (z_MK_find (o := o) (q := q) (lq := lq) (ki := ki) (ne := ne) (ot := ot) (cnt := cnt) (fi := fi) (la := la) (ra := ra) (ru := ru) (gr := gr) (wi := wi) (sz := sz) (fl := fl) (ve := ve) (mi := mi) (na := na) (nl := nl) (K := K) (N := N) (O := O) (RR := RR) (nr := nr) (s := f_subject) (by_ := by_) (co := co) (re := re) (ho := ho) (n := n) (C := C) (Rs := Rs) (H := H) (mc := mc) (a := f_marks) (sp := f_spans) (wk := wk_k) (mk := mk_k) (stk := stk_k) (w := w_k) (df := df_k) (dp := dp_k) (fo := fo_k) (fy := fy_k) (hw := hw_k) (stp := stm) (SP := SP) (WK := WK_k) (M := M_k) (SK := SK_k) (nm := nm) (ns := ns) (p := bf) hf_marks hf_spans hwk_k hmk_k hstk_k hq hki hne hot hra hf_subject hco hre hho (by omega) hp hr (by omega) hsu (by omega) (by omega) (by omega) (by omega) (by omega) (by omega) hst_k (by omega) (by omega) jsp (by omega) (by omega) (by omega)) (fun oc G2 h => by rcases h with ⟨_, _, _, _, _, _, _, _, _, _, _, h, _⟩ | ⟨_, _, _, _, _, _, _, _, _, _, _, _, h, _⟩ <;> exact ⟨_, h⟩) (by omega) m_MK_find ml_PW_251 im_MK_find se_MK_find c_MK hf_marks.2.2 (Nat.le_of_ble_eq_true rfl) d_PW_hunt_9 rfl ?_
    intro v G105 hq
    rcases hq with ⟨o106, df2107, dp2108, fo2109, st2110, sk2111, ns2112, WK2113, M2114, SK2115, SP2116, hv, hfk, hNf_marks, hNf_spans, hNwk_k, hNmk_k, hNsk2111, hq117, hq118, hq119, hq120, hq121, hq122, hq123, hq124⟩ | ⟨o125, df2126, dp2127, fo2128, st2129, sk2130, ns2131, WK2132, M2133, SK2134, SP2135, r136, hv, hfk, hNf_marks, hNf_spans, hNwk_k, hNmk_k, hNsk2130, hq137, hq138, hq139, hq140, hq141, hq142, hq143, hq144, hq145, hq146, hq147, hq148⟩
    · cases hv
      have hw_ := hfk.get hw_ (by decide)
      have hq := hfk.get hq (by simp only [List.mem_cons, List.not_mem_nil, or_false]; omega)
      have hki := hfk.get hki (by simp only [List.mem_cons, List.not_mem_nil, or_false]; omega)
      have hne := hfk.get hne (by simp only [List.mem_cons, List.not_mem_nil, or_false]; omega)
      have hot := hfk.get hot (by simp only [List.mem_cons, List.not_mem_nil, or_false]; omega)
      have hra := hfk.get hra (by simp only [List.mem_cons, List.not_mem_nil, or_false]; omega)
      have hf_subject := hfk.get hf_subject (by decide)
      have hco := hfk.get hco (by decide)
      have hre := hfk.get hre (by decide)
      have hho := hfk.get hho (by decide)
      have hfr := hfr.tr hfk (by decide)
      have hq149 := hfk.1
      have hf_marks := hNf_marks
      have hf_spans := hNf_spans
      have hwk_k := hNwk_k
      have hmk_k := hNmk_k
      have hsk2111 := hNsk2111
      change ab_W _ _ _ G105 12 [some (vR w_), some (vz bf), none] [vz (-1)] _
      refine ab_istore_n d_PW_hunt_12 (Nat.le_of_ble_eq_true rfl) (Nat.le_of_ble_eq_true rfl) rfl ?_
      change ab_W _ _ _ G105 13 [some (vR w_), some (vz bf), some (vz (-1))] [] _
      refine ab_iload_n d_PW_hunt_13 rfl ?_
      refine zz_iconst d_PW_hunt_14 ?_
      refine zz_icmp_eq (tgt := 59) d_PW_hunt_15 (by decide) (by decide) (by decide) (fun c151 => ?_) (fun c151 => absurd c151 (by decide))
      refine ab_iload_n d_PW_hunt_59 rfl ?_
      refine zz_iconst d_PW_hunt_60 ?_
      refine zz_icmp_eq (tgt := 68) d_PW_hunt_61 (by decide) (by decide) (by decide) (fun c152 => ?_) (fun c152 => absurd c152 (by decide))
      refine zz_iconst d_PW_hunt_68 ?_
      have pmkB_f_marks : mkB o106 G105 f_marks q f_subject f_spans nm ns2112 cnt n st2110 (ucn M2114 w_k df2107 n) := ⟨wk_k, mk_k, sk2111, w_k, df2107, dp2108, fo2109, fy_k, hw_k, WK2113, M2114, SK2115, hf_marks, hwk_k, hmk_k, hsk2111, (by omega), hq118, (by omega), (by omega), (by omega), (by omega), (by omega), (by omega)⟩
      refine zz_bret rfl (by decide) d_PW_hunt_69 ?_
      rw [hQ]; exact (Or.inl ⟨_, _, _, _, _, rfl, hfr, hf_spans, pmkB_f_marks, (by omega), (by exact hq120), (by omega), (by omega)⟩)
    · cases hv
      have hw_ := hfk.get hw_ (by decide)
      have hq := hfk.get hq (by simp only [List.mem_cons, List.not_mem_nil, or_false]; omega)
      have hki := hfk.get hki (by simp only [List.mem_cons, List.not_mem_nil, or_false]; omega)
      have hne := hfk.get hne (by simp only [List.mem_cons, List.not_mem_nil, or_false]; omega)
      have hot := hfk.get hot (by simp only [List.mem_cons, List.not_mem_nil, or_false]; omega)
      have hra := hfk.get hra (by simp only [List.mem_cons, List.not_mem_nil, or_false]; omega)
      have hf_subject := hfk.get hf_subject (by decide)
      have hco := hfk.get hco (by decide)
      have hre := hfk.get hre (by decide)
      have hho := hfk.get hho (by decide)
      have hfr := hfr.tr hfk (by decide)
      have hq150 := hfk.1
      have hf_marks := hNf_marks
      have hf_spans := hNf_spans
      have hwk_k := hNwk_k
      have hmk_k := hNmk_k
      have hsk2130 := hNsk2130
      change ab_W _ _ _ G105 12 [some (vR w_), some (vz bf), none] [vz r136] _
      refine ab_istore_n d_PW_hunt_12 (Nat.le_of_ble_eq_true rfl) (Nat.le_of_ble_eq_true rfl) rfl ?_
      change ab_W _ _ _ G105 13 [some (vR w_), some (vz bf), some (vz r136)] [] _
      refine ab_iload_n d_PW_hunt_13 rfl ?_
      refine zz_iconst d_PW_hunt_14 ?_
      refine zz_icmp_eq (tgt := 59) d_PW_hunt_15 (by decide) (by omega) (by decide) (fun c153 => absurd c153 (by omega)) (fun c153 => ?_)
      refine ab_iload_n d_PW_hunt_18 rfl ?_
      refine ab_iload_n d_PW_hunt_19 rfl ?_
      refine zz_icmp_ne (tgt := 59) d_PW_hunt_20 (by decide) (by omega) (by omega) (fun c154 => ?_) (fun c154 => ?_)
      · refine ab_iload_n d_PW_hunt_59 rfl ?_
        refine zz_iconst d_PW_hunt_60 ?_
        refine zz_icmp_eq (tgt := 68) d_PW_hunt_61 (by decide) (by omega) (by decide) (fun c155 => absurd c155 (by omega)) (fun c155 => ?_)
        refine zz_iconst d_PW_hunt_64 ?_
        refine ab_goto (tgt := 69) d_PW_hunt_65 (by decide) ?_
        have pmkB_f_marks : mkB o125 G105 f_marks q f_subject f_spans nm ns2131 cnt n st2129 (ucn M2133 w_k df2126 n) := ⟨wk_k, mk_k, sk2130, w_k, df2126, dp2127, fo2128, fy_k, hw_k, WK2132, M2133, SK2134, hf_marks, hwk_k, hmk_k, hsk2130, (by omega), hq138, (by omega), (by omega), (by omega), (by omega), (by omega), (by omega)⟩
        refine zz_bret rfl (by decide) d_PW_hunt_69 ?_
        rw [hQ]; exact (Or.inr ⟨_, _, _, _, _, rfl, hfr, hf_spans, pmkB_f_marks, (by omega), (by exact hq140), (by omega), (by omega), (by exact hq147), (by have t1 := hq147 1 (by omega) (by omega); have t2 := hq148; omega)⟩)
      · have hs0_ := hq140 0 (by omega) (by omega)
        refine ab_aload_n d_PW_hunt_23 rfl ?_
        refine ab_getf (fs := [vR f_ready, vR f_tape, vR f_reader, vR f_programs, vR f_subject, vR f_spans, vR f_threads, vR f_marks, vR f_oneMind, vR f_states, vR f_latest, vR f_matches, vR f_pieces, vR f_template, vR f_result, vR f_spare, vz cmp, vz ovs]) f_PW_42 d_PW_hunt_24 hw_.2.2 rfl ?_
        refine zz_iconst d_PW_hunt_27 ?_
        refine zz_iald d_PW_hunt_28 hf_spans (by omega) ?_
        refine ab_iload_n d_PW_hunt_29 rfl ?_
        refine zz_icmp_ne (tgt := 59) d_PW_hunt_30 (by decide) (by omega) (by omega) (fun c156 => ?_) (fun c156 => ?_)
        · refine ab_iload_n d_PW_hunt_59 rfl ?_
          refine zz_iconst d_PW_hunt_60 ?_
          refine zz_icmp_eq (tgt := 68) d_PW_hunt_61 (by decide) (by omega) (by decide) (fun c157 => absurd c157 (by omega)) (fun c157 => ?_)
          refine zz_iconst d_PW_hunt_64 ?_
          refine ab_goto (tgt := 69) d_PW_hunt_65 (by decide) ?_
          have pmkB_f_marks : mkB o125 G105 f_marks q f_subject f_spans nm ns2131 cnt n st2129 (ucn M2133 w_k df2126 n) := ⟨wk_k, mk_k, sk2130, w_k, df2126, dp2127, fo2128, fy_k, hw_k, WK2132, M2133, SK2134, hf_marks, hwk_k, hmk_k, hsk2130, (by omega), hq138, (by omega), (by omega), (by omega), (by omega), (by omega), (by omega)⟩
          refine zz_bret rfl (by decide) d_PW_hunt_69 ?_
          rw [hQ]; exact (Or.inr ⟨_, _, _, _, _, rfl, hfr, hf_spans, pmkB_f_marks, (by omega), (by exact hq140), (by omega), (by omega), (by exact hq147), (by have t1 := hq147 1 (by omega) (by omega); have t2 := hq148; omega)⟩)
        · refine ab_iload_n d_PW_hunt_33 rfl ?_
          refine ab_aload_n d_PW_hunt_34 rfl ?_
          refine ab_getf (fs := [vR f_ready, vR f_tape, vR f_reader, vR f_programs, vR f_subject, vR f_spans, vR f_threads, vR f_marks, vR f_oneMind, vR f_states, vR f_latest, vR f_matches, vR f_pieces, vR f_template, vR f_result, vR f_spare, vz cmp, vz ovs]) f_PW_38 d_PW_hunt_35 hw_.2.2 rfl ?_
          refine ab_getf (fs := [vR by_, vR co, vR re, vR ho, vz n]) f_PW_164 d_PW_hunt_38 hf_subject.2.2 rfl ?_
          refine zz_icmp_ge (tgt := 57) d_PW_hunt_41 (by decide) (by omega) (by omega) (fun c158 => ?_) (fun c158 => ?_)
          · refine zz_iconst d_PW_hunt_57 ?_
            refine ab_istore_n d_PW_hunt_58 (Nat.le_of_ble_eq_true rfl) (Nat.le_of_ble_eq_true rfl) rfl ?_
            change ab_W _ _ _ G105 59 [some (vR w_), some (vz bf), some (vz (-1))] [] _
            refine ab_iload_n d_PW_hunt_59 rfl ?_
            refine zz_iconst d_PW_hunt_60 ?_
            refine zz_icmp_eq (tgt := 68) d_PW_hunt_61 (by decide) (by decide) (by decide) (fun c159 => ?_) (fun c159 => absurd c159 (by decide))
            refine zz_iconst d_PW_hunt_68 ?_
            have pmkB_f_marks : mkB o125 G105 f_marks q f_subject f_spans nm ns2131 cnt n st2129 (ucn M2133 w_k df2126 n) := ⟨wk_k, mk_k, sk2130, w_k, df2126, dp2127, fo2128, fy_k, hw_k, WK2132, M2133, SK2134, hf_marks, hwk_k, hmk_k, hsk2130, (by omega), hq138, (by omega), (by omega), (by omega), (by omega), (by omega), (by omega)⟩
            refine zz_bret rfl (by decide) d_PW_hunt_69 ?_
            rw [hQ]; exact (Or.inl ⟨_, _, _, _, _, rfl, hfr, hf_spans, pmkB_f_marks, (by omega), (by exact hq140), (by omega), (by omega)⟩)
          · refine ab_aload_n d_PW_hunt_44 rfl ?_
            refine ab_getf (fs := [vR f_ready, vR f_tape, vR f_reader, vR f_programs, vR f_subject, vR f_spans, vR f_threads, vR f_marks, vR f_oneMind, vR f_states, vR f_latest, vR f_matches, vR f_pieces, vR f_template, vR f_result, vR f_spare, vz cmp, vz ovs]) f_PW_55 d_PW_hunt_45 hw_.2.2 rfl ?_
            refine ab_iload_n d_PW_hunt_48 rfl ?_
            refine zz_iconst d_PW_hunt_49 ?_
            refine zz_iadd d_PW_hunt_50 ?_
            refine ab_callV (d' := d - 1) (as := [vz (bf + 1)]) (st := []) (r := _) (z_MK_find (o := o125) (q := q) (lq := lq) (ki := ki) (ne := ne) (ot := ot) (cnt := cnt) (fi := fi) (la := la) (ra := ra) (ru := ru) (gr := gr) (wi := wi) (sz := sz) (fl := fl) (ve := ve) (mi := mi) (na := na) (nl := nl) (K := K) (N := N) (O := O) (RR := RR) (nr := nr) (s := f_subject) (by_ := by_) (co := co) (re := re) (ho := ho) (n := n) (C := C) (Rs := Rs) (H := H) (mc := mc) (a := f_marks) (sp := f_spans) (wk := wk_k) (mk := mk_k) (stk := sk2130) (w := w_k) (df := df2126) (dp := dp2127) (fo := fo2128) (fy := fy_k) (hw := hw_k) (stp := st2129) (SP := SP2135) (WK := WK2132) (M := M2133) (SK := SK2134) (nm := nm) (ns := ns2131) (p := (bf + 1)) hf_marks hf_spans hwk_k hmk_k hsk2130 hq hki hne hot hra hf_subject hco hre hho (by omega) hp hr (by omega) hsu (by omega) (by omega) (by omega) (by omega) (by omega) (by omega) hq138 (by omega) (by omega) hq140 (by omega) (by omega) (by omega)) (fun oc G2 h => by rcases h with ⟨_, _, _, _, _, _, _, _, _, _, _, h, _⟩ | ⟨_, _, _, _, _, _, _, _, _, _, _, _, h, _⟩ <;> exact ⟨_, h⟩) (by omega) m_MK_find ml_PW_251 im_MK_find se_MK_find c_MK hf_marks.2.2 (Nat.le_of_ble_eq_true rfl) d_PW_hunt_51 rfl ?_
            intro v G160 hq
            rcases hq with ⟨o161, df2162, dp2163, fo2164, st2165, sk2166, ns2167, WK2168, M2169, SK2170, SP2171, hv, hfk, hNf_marks, hNf_spans, hNwk_k, hNmk_k, hNsk2166, hq172, hq173, hq174, hq175, hq176, hq177, hq178, hq179⟩ | ⟨o180, df2181, dp2182, fo2183, st2184, sk2185, ns2186, WK2187, M2188, SK2189, SP2190, r191, hv, hfk, hNf_marks, hNf_spans, hNwk_k, hNmk_k, hNsk2185, hq192, hq193, hq194, hq195, hq196, hq197, hq198, hq199, hq200, hq201, hq202, hq203⟩
            · cases hv
              have hw_ := hfk.get hw_ (by decide)
              have hq := hfk.get hq (by simp only [List.mem_cons, List.not_mem_nil, or_false]; omega)
              have hki := hfk.get hki (by simp only [List.mem_cons, List.not_mem_nil, or_false]; omega)
              have hne := hfk.get hne (by simp only [List.mem_cons, List.not_mem_nil, or_false]; omega)
              have hot := hfk.get hot (by simp only [List.mem_cons, List.not_mem_nil, or_false]; omega)
              have hra := hfk.get hra (by simp only [List.mem_cons, List.not_mem_nil, or_false]; omega)
              have hf_subject := hfk.get hf_subject (by decide)
              have hco := hfk.get hco (by decide)
              have hre := hfk.get hre (by decide)
              have hho := hfk.get hho (by decide)
              have hfr := hfr.tr hfk (by decide)
              have hq204 := hfk.1
              have hf_marks := hNf_marks
              have hf_spans := hNf_spans
              have hwk_k := hNwk_k
              have hmk_k := hNmk_k
              have hsk2166 := hNsk2166
              change ab_W _ _ _ G160 54 [some (vR w_), some (vz bf), some (vz r136)] [vz (-1)] _
              refine ab_goto (tgt := 58) d_PW_hunt_54 (by decide) ?_
              refine ab_istore_n d_PW_hunt_58 (Nat.le_of_ble_eq_true rfl) (Nat.le_of_ble_eq_true rfl) rfl ?_
              change ab_W _ _ _ G160 59 [some (vR w_), some (vz bf), some (vz (-1))] [] _
              refine ab_iload_n d_PW_hunt_59 rfl ?_
              refine zz_iconst d_PW_hunt_60 ?_
              refine zz_icmp_eq (tgt := 68) d_PW_hunt_61 (by decide) (by decide) (by decide) (fun c206 => ?_) (fun c206 => absurd c206 (by decide))
              refine zz_iconst d_PW_hunt_68 ?_
              have pmkB_f_marks : mkB o161 G160 f_marks q f_subject f_spans nm ns2167 cnt n st2165 (ucn M2169 w_k df2162 n) := ⟨wk_k, mk_k, sk2166, w_k, df2162, dp2163, fo2164, fy_k, hw_k, WK2168, M2169, SK2170, hf_marks, hwk_k, hmk_k, hsk2166, (by omega), hq173, (by omega), (by omega), (by omega), (by omega), (by omega), (by omega)⟩
              refine zz_bret rfl (by decide) d_PW_hunt_69 ?_
              rw [hQ]; exact (Or.inl ⟨_, _, _, _, _, rfl, hfr, hf_spans, pmkB_f_marks, (by omega), (by exact hq175), (by omega), (by omega)⟩)
            · cases hv
              have hw_ := hfk.get hw_ (by decide)
              have hq := hfk.get hq (by simp only [List.mem_cons, List.not_mem_nil, or_false]; omega)
              have hki := hfk.get hki (by simp only [List.mem_cons, List.not_mem_nil, or_false]; omega)
              have hne := hfk.get hne (by simp only [List.mem_cons, List.not_mem_nil, or_false]; omega)
              have hot := hfk.get hot (by simp only [List.mem_cons, List.not_mem_nil, or_false]; omega)
              have hra := hfk.get hra (by simp only [List.mem_cons, List.not_mem_nil, or_false]; omega)
              have hf_subject := hfk.get hf_subject (by decide)
              have hco := hfk.get hco (by decide)
              have hre := hfk.get hre (by decide)
              have hho := hfk.get hho (by decide)
              have hfr := hfr.tr hfk (by decide)
              have hq205 := hfk.1
              have hf_marks := hNf_marks
              have hf_spans := hNf_spans
              have hwk_k := hNwk_k
              have hmk_k := hNmk_k
              have hsk2185 := hNsk2185
              change ab_W _ _ _ G160 54 [some (vR w_), some (vz bf), some (vz r136)] [vz r191] _
              refine ab_goto (tgt := 58) d_PW_hunt_54 (by decide) ?_
              refine ab_istore_n d_PW_hunt_58 (Nat.le_of_ble_eq_true rfl) (Nat.le_of_ble_eq_true rfl) rfl ?_
              change ab_W _ _ _ G160 59 [some (vR w_), some (vz bf), some (vz r191)] [] _
              refine ab_iload_n d_PW_hunt_59 rfl ?_
              refine zz_iconst d_PW_hunt_60 ?_
              refine zz_icmp_eq (tgt := 68) d_PW_hunt_61 (by decide) (by omega) (by decide) (fun c207 => absurd c207 (by omega)) (fun c207 => ?_)
              refine zz_iconst d_PW_hunt_64 ?_
              refine ab_goto (tgt := 69) d_PW_hunt_65 (by decide) ?_
              have pmkB_f_marks : mkB o180 G160 f_marks q f_subject f_spans nm ns2186 cnt n st2184 (ucn M2188 w_k df2181 n) := ⟨wk_k, mk_k, sk2185, w_k, df2181, dp2182, fo2183, fy_k, hw_k, WK2187, M2188, SK2189, hf_marks, hwk_k, hmk_k, hsk2185, (by omega), hq193, (by omega), (by omega), (by omega), (by omega), (by omega), (by omega)⟩
              refine zz_bret rfl (by decide) d_PW_hunt_69 ?_
              rw [hQ]; exact (Or.inr ⟨_, _, _, _, _, rfl, hfr, hf_spans, pmkB_f_marks, (by omega), (by exact hq195), (by omega), (by omega), (by exact hq202), (by have t1 := hq202 1 (by omega) (by omega); have t2 := hq203; omega)⟩)
set_option maxRecDepth 100000 in
set_option maxHeartbeats 4000000 in
theorem y_PW_all_50 {X : ab_X} {d : Nat} {Q : Outcome → ab_G → Prop} {o0 : Nat → Nat} {G0 : ab_G} {w_ : Nat} {f_ready : Nat} {f_tape : Nat} {f_reader : Nat} {f_programs : Nat} {f_subject : Nat} {f_spans : Nat} {f_threads : Nat} {f_marks : Nat} {f_oneMind : Nat} {f_states : Nat} {f_latest : Nat} {f_matches : Nat} {f_pieces : Nat} {f_template : Nat} {f_result : Nat} {f_spare : Nat} {cmp : Int} {ovs : Int} {q : Nat} {lq : Nat} {ki : Nat} {ne : Nat} {ot : Nat} {cnt : Int} {fi : Int} {la : Int} {ra : Nat} {ru : Int} {gr : Int} {wi : Int} {sz : Int} {fl : Int} {ve : Int} {mi : Int} {K : Int → Int} {N : Int → Int} {O : Int → Int} {RR : Int → Int} {nr : Nat} {na : Nat} {nl : Nat} {nm : Nat} {n : Int} {m : Nat} {by_ : Nat} {co : Nat} {re : Nat} {ho : Nat} {f : Int → Int} {C : Int → Int} {Rs : Int → Int} {H : Int → Int} {mc : Nat} {ns0 : Nat} {mr0 : Nat} {st0 : Int} {un0 : Int} (n18 : ab_n0 = 18) (cq : 100 ≤ lq ∧ 2 ≤ cnt ∧ cnt ≤ 808 ∧ ↑nr ≤ (100000 : Int)) (hp : prok K N O RR cnt ↑nr wi) (hr : ∀ k : Int, 0 ≤ k → k < ↑nr → 0 ≤ RR k ∧ RR k ≤ 1114111) (cfi : 0 ≤ fi ∧ fi < cnt) (cwi : 2 ≤ wi ∧ wi ≤ 20) (csu : 0 ≤ n ∧ n ≤ ↑m ∧ 32 ≤ m ∧ m ≤ 2000 ∧ mc = m + 1) (hsu : suok f C Rs H n) (rc : G0.length + 4500 ≤ ab_n0 + room_1.cells) (rs : ab_slots G0 + 1940000 ≤ room_1.slots + stT ns0 + zT mr0 4002) (hd : 11 ≤ d) : ∀ (mz : Nat) {G : ab_G} {o : Nat → Nat} {ns : Nat} {SP : Int → Int} {it_a : Nat} {sz_a : Int} {mr_a : Nat} {F_a : Int → Int} {bf : Int} {tu : Int} {stm : Int} {un : Int}, (cc o G w_ 18 (ab_ob 0 [vR f_ready, vR f_tape, vR f_reader, vR f_programs, vR f_subject, vR f_spans, vR f_threads, vR f_marks, vR f_oneMind, vR f_states, vR f_latest, vR f_matches, vR f_pieces, vR f_template, vR f_result, vR f_spare, vz cmp, vz ovs])) → (cc o G f_spans 31 (za 20 SP)) → (cc o G q lq (ab_ob 5 [vR ki, vR ne, vR ot, vz cnt, vz fi, vz la, vR ra, vz ru, vz gr, vz wi, vz sz, vz fl, vz ve, vz mi, vR na, vR nl])) → (cc o G ki (lq + 1) (za 808 K)) → (cc o G ne (lq + 2) (za 808 N)) → (cc o G ot (lq + 3) (za 808 O)) → (cc o G ra (lq + 4) (za nr RR)) → (cc o G f_subject 26 (ab_ob 9 [vR by_, vR co, vR re, vR ho, vz n])) → (cc o G co 28 (za mc C)) → (cc o G re 29 (za mc Rs)) → (cc o G ho 30 (za mc H)) → (cc o G f_matches 71 (ab_ob 7 [vz 4002, vR it_a, vz sz_a])) → (cc o G it_a 72 (za mr_a F_a)) → (mkB o G f_marks q f_subject f_spans nm ns cnt n stm un) → (0 ≤ tu ∧ tu ≤ n + 1 ∧ -1 ≤ bf ∧ bf ≤ n) → (rgs SP 20 (-1) 2000) → (0 ≤ sz_a ∧ sz_a ≤ ↑mr_a ∧ ↑mr_a ≤ (4002 : Int) ∧ 32 ≤ mr_a) → (G.length + stC ns0 + mr0 ≤ G0.length + stC ns + mr_a) → (ab_slots G + stT ns0 + zT mr0 4002 ≤ ab_slots G0 + stT ns + zT mr_a 4002) → (st0 ≤ stm ∧ stm + 2 * un ≤ st0 + 2 * un0 + 7340 * tu) → (sz_a = 2 * tu) → (fx o0 o [31, 44, 45, 46, 47, 71, 72] G0 G) → (Int.toNat (n + 1 - tu) < mz) → (∀ (G2 : ab_G) (o2 : Nat → Nat) (ns2 : Nat) (SP2 : Int → Int) (it2 : Nat) (sz2 : Int) (mr2 : Nat) (F2 : Int → Int) (sm2 : Int) (un2 : Int), (cc o2 G2 f_spans 31 (za 20 SP2)) → (cc o2 G2 f_matches 71 (ab_ob 7 [vz 4002, vR it2, vz sz2])) → (cc o2 G2 it2 72 (za mr2 F2)) → (mkB o2 G2 f_marks q f_subject f_spans nm ns2 cnt n sm2 un2) → (st0 ≤ sm2 ∧ sm2 + 2 * un2 ≤ st0 + 2 * un0 + 7340 + 3670 * sz2) → (sz2 % 2 = 0) → (rgs SP2 20 (-1) 2000) → (0 ≤ sz2 ∧ sz2 ≤ ↑mr2 ∧ ↑mr2 ≤ (4002 : Int) ∧ 32 ≤ mr2) → (G2.length + stC ns0 + mr0 ≤ G0.length + stC ns2 + mr2) → (ab_slots G2 + stT ns0 + zT mr0 4002 ≤ ab_slots G0 + stT ns2 + zT mr2 4002) → (fx o0 o2 [31, 44, 45, 46, 47, 71, 72] G0 G2) → ab_W X (ab_pl y_PW_all b_PW_all 5 (some (.int))) d G2 111 [some (vR w_), none, some (vR q), none, none] [] Q) → ab_W X (ab_pl y_PW_all b_PW_all 5 (some (.int))) d G 50 [some (vR w_), none, some (vR q), some (vz bf), some (vz tu)] [] Q := by
  intro mz
  induction mz with
  | zero => intro G o ns SP it_a sz_a mr_a F_a bf tu stm un hw_ hf_spans hq hki hne hot hra hf_subject hco hre hho hf_matches hit_a pmkB_f_marks ci jsp crw_a hg hs hst9 cnt9 hfr hm hk0; exact absurd hm (Nat.not_lt_zero _)
  | succ mz ih =>
    intro G o ns SP it_a sz_a mr_a F_a bf tu stm un hw_ hf_spans hq hki hne hot hra hf_subject hco hre hho hf_matches hit_a pmkB_f_marks ci jsp crw_a hg hs hst9 cnt9 hfr hm hk0
    have hq1 := stT_le ns
    have hq2 := stC_le ns
    have hza_ : zT mr_a 4002 ≤ 12006 := zT_le (c := 4002) (by omega) rfl
    refine ab_iload d_PW_all_50 rfl ?_
    refine ab_aload_n d_PW_all_52 rfl ?_
    refine ab_getf (fs := [vR f_ready, vR f_tape, vR f_reader, vR f_programs, vR f_subject, vR f_spans, vR f_threads, vR f_marks, vR f_oneMind, vR f_states, vR f_latest, vR f_matches, vR f_pieces, vR f_template, vR f_result, vR f_spare, vz cmp, vz ovs]) f_PW_38 d_PW_all_53 hw_.2.2 rfl ?_
    refine ab_getf (fs := [vR by_, vR co, vR re, vR ho, vz n]) f_PW_164 d_PW_all_56 hf_subject.2.2 rfl ?_
    refine zz_icmp_gt (tgt := 111) d_PW_all_59 (by decide) (by omega) (by omega) (fun c3 => ?_) (fun c3 => ?_)
    · refine ab_less (L' := [some (vR w_), none, some (vR q), none, none]) (fun i v h => by rcases i with _ | _ | _ | _ | _ | i <;> first | exact h | (simp at h)) ?_
      exact hk0 _ _ _ _ _ _ _ _ _ _ hf_spans hf_matches hit_a pmkB_f_marks (by omega) (by omega) (by exact jsp) (by omega) (by omega) (by omega) hfr
    · refine ab_aload_n d_PW_all_62 rfl ?_
      refine ab_iload_n d_PW_all_63 rfl ?_
      refine ab_callV (d' := d - 1) (as := [vz bf]) (st := []) (r := _) (z_PW_hunt (o := o) (w_ := w_) (f_ready := f_ready) (f_tape := f_tape) (f_reader := f_reader) (f_programs := f_programs) (f_subject := f_subject) (f_spans := f_spans) (f_threads := f_threads) (f_marks := f_marks) (f_oneMind := f_oneMind) (f_states := f_states) (f_latest := f_latest) (f_matches := f_matches) (f_pieces := f_pieces) (f_template := f_template) (f_result := f_result) (f_spare := f_spare) (cmp := cmp) (ovs := ovs) (q := q) (lq := lq) (ki := ki) (ne := ne) (ot := ot) (cnt := cnt) (fi := fi) (la := la) (ra := ra) (ru := ru) (gr := gr) (wi := wi) (sz := sz) (fl := fl) (ve := ve) (mi := mi) (K := K) (N := N) (O := O) (RR := RR) (nr := nr) (na := na) (nl := nl) (nm := nm) (ns := ns) (n := n) (SP := SP) (by_ := by_) (co := co) (re := re) (ho := ho) (C := C) (Rs := Rs) (H := H) (mc := mc) (bf := bf) (stm := stm) (un := un) hw_ hf_spans hq hki hne hot hra hf_subject hco hre hho pmkB_f_marks (by omega) (by omega) hp hr (by omega) (by omega) (by omega) hsu jsp (by omega) (by omega) (by omega) (by omega)) (fun oc G2 h => by rcases h with ⟨_, _, _, _, _, h, _⟩ | ⟨_, _, _, _, _, h, _⟩ <;> exact ⟨_, h⟩) (by omega) m_PW_hunt ml_PW_193 im_PW_hunt se_PW_hunt c_PW hw_.2.2 (Nat.le_of_ble_eq_true rfl) d_PW_all_64 rfl ?_
      intro v G4 hq
      rcases hq with ⟨o5, ns26, SP27, sm28, un29, hv, hfk, hNf_spans, pNmkB_f_marks, hq10, hq11, hq12, hq13⟩ | ⟨o14, ns215, SP216, sm217, un218, hv, hfk, hNf_spans, pNmkB_f_marks, hq19, hq20, hq21, hq22, hq23, hq24⟩
      · cases hv
        have hw_ := hfk.get hw_ (by decide)
        have hq := hfk.get hq (by simp only [List.mem_cons, List.not_mem_nil, or_false]; omega)
        have hki := hfk.get hki (by simp only [List.mem_cons, List.not_mem_nil, or_false]; omega)
        have hne := hfk.get hne (by simp only [List.mem_cons, List.not_mem_nil, or_false]; omega)
        have hot := hfk.get hot (by simp only [List.mem_cons, List.not_mem_nil, or_false]; omega)
        have hra := hfk.get hra (by simp only [List.mem_cons, List.not_mem_nil, or_false]; omega)
        have hf_subject := hfk.get hf_subject (by decide)
        have hco := hfk.get hco (by decide)
        have hre := hfk.get hre (by decide)
        have hho := hfk.get hho (by decide)
        have hf_matches := hfk.get hf_matches (by decide)
        have hit_a := hfk.get hit_a (by decide)
        have pmkB_f_marks := pNmkB_f_marks
        have hfr := hfr.tr hfk (by decide)
        have hq25 := hfk.1
        have hf_spans := hNf_spans
        change ab_W _ _ _ G4 67 [some (vR w_), none, some (vR q), some (vz bf), some (vz tu)] [vz 0] _
        refine zz_if_eq (tgt := 111) d_PW_all_67 (by decide) (by decide) (fun c27 => ?_) (fun c27 => absurd c27 (by decide))
        refine ab_less (L' := [some (vR w_), none, some (vR q), none, none]) (fun i v h => by rcases i with _ | _ | _ | _ | _ | i <;> first | exact h | (simp at h)) ?_
        exact hk0 _ _ _ _ _ _ _ _ _ _ hf_spans hf_matches hit_a pmkB_f_marks (by omega) (by omega) (by exact hq11) (by omega) (by omega) (by omega) hfr
      · cases hv
        have hw_ := hfk.get hw_ (by decide)
        have hq := hfk.get hq (by simp only [List.mem_cons, List.not_mem_nil, or_false]; omega)
        have hki := hfk.get hki (by simp only [List.mem_cons, List.not_mem_nil, or_false]; omega)
        have hne := hfk.get hne (by simp only [List.mem_cons, List.not_mem_nil, or_false]; omega)
        have hot := hfk.get hot (by simp only [List.mem_cons, List.not_mem_nil, or_false]; omega)
        have hra := hfk.get hra (by simp only [List.mem_cons, List.not_mem_nil, or_false]; omega)
        have hf_subject := hfk.get hf_subject (by decide)
        have hco := hfk.get hco (by decide)
        have hre := hfk.get hre (by decide)
        have hho := hfk.get hho (by decide)
        have hf_matches := hfk.get hf_matches (by decide)
        have hit_a := hfk.get hit_a (by decide)
        have pmkB_f_marks := pNmkB_f_marks
        have hfr := hfr.tr hfk (by decide)
        have hq26 := hfk.1
        have hf_spans := hNf_spans
        change ab_W _ _ _ G4 67 [some (vR w_), none, some (vR q), some (vz bf), some (vz tu)] [vz 1] _
        refine zz_if_eq (tgt := 111) d_PW_all_67 (by decide) (by decide) (fun c28 => absurd c28 (by decide)) (fun c28 => ?_)
        have hs0_ := hq20 0 (by omega) (by omega)
        have hs1_ := hq20 1 (by omega) (by omega)
        have hq29 := stT_le ns215
        have hq30 := stC_le ns215
        refine ab_aload_n d_PW_all_70 rfl ?_
        refine ab_getf (fs := [vR f_ready, vR f_tape, vR f_reader, vR f_programs, vR f_subject, vR f_spans, vR f_threads, vR f_marks, vR f_oneMind, vR f_states, vR f_latest, vR f_matches, vR f_pieces, vR f_template, vR f_result, vR f_spare, vz cmp, vz ovs]) f_PW_76 d_PW_all_71 hw_.2.2 rfl ?_
        refine ab_aload_n d_PW_all_74 rfl ?_
        refine ab_getf (fs := [vR f_ready, vR f_tape, vR f_reader, vR f_programs, vR f_subject, vR f_spans, vR f_threads, vR f_marks, vR f_oneMind, vR f_states, vR f_latest, vR f_matches, vR f_pieces, vR f_template, vR f_result, vR f_spare, vz cmp, vz ovs]) f_PW_42 d_PW_all_75 hw_.2.2 rfl ?_
        refine zz_iconst d_PW_all_78 ?_
        refine zz_iald d_PW_all_79 hf_spans (by omega) ?_
        refine ab_callV (d' := d - 1) (as := [vz (SP216 0)]) (st := []) (r := _) (z_RW_add (o := o14) (r := f_matches) (b := it_a) (lr := 71) (lb := 72) (n := mr_a) (lim := 4002) (sz := sz_a) (f := F_a) (x := (SP216 0)) hf_matches hit_a (by omega) (by have h18 : ab_n0 = 18 := rfl; omega) (by omega) (by omega) (by omega)) (fun oc G2 h => by rcases h with ⟨h, _⟩ | ⟨_, _, _, _, h, _⟩ <;> exact ⟨_, h⟩) (by omega) m_RW_add ml_PW_197 im_RW_add se_RW_add c_RW hf_matches.2.2 (Nat.le_of_ble_eq_true rfl) d_PW_all_80 rfl ?_
        intro v G31 hq
        rcases hq with ⟨hv, hGe, hq32⟩ | ⟨o33, b234, n235, f236, hv, hfk, hNf_matches, hNb234, hq37, hq38, hq39, hq40, hq41, hq42⟩
        · cases hv
          rw [hGe]
          change ab_W _ _ _ G4 83 [some (vR w_), none, some (vR q), some (vz bf), some (vz tu)] [vz 0] _
          exfalso; omega
        · cases hv
          have hw_ := hfk.get hw_ (by decide)
          have hf_spans := hfk.get hf_spans (by decide)
          have hq := hfk.get hq (by simp only [List.mem_cons, List.not_mem_nil, or_false]; omega)
          have hki := hfk.get hki (by simp only [List.mem_cons, List.not_mem_nil, or_false]; omega)
          have hne := hfk.get hne (by simp only [List.mem_cons, List.not_mem_nil, or_false]; omega)
          have hot := hfk.get hot (by simp only [List.mem_cons, List.not_mem_nil, or_false]; omega)
          have hra := hfk.get hra (by simp only [List.mem_cons, List.not_mem_nil, or_false]; omega)
          have hf_subject := hfk.get hf_subject (by decide)
          have hco := hfk.get hco (by decide)
          have hre := hfk.get hre (by decide)
          have hho := hfk.get hho (by decide)
          have pmkB_f_marks := mkB.fr hfk pmkB_f_marks (by decide) (by decide) (by decide) (by decide)
          have hfr := hfr.tr hfk (by decide)
          have hq43 := hfk.1
          have hf_matches := hNf_matches
          have hb234 := hNb234
          change ab_W _ _ _ G31 83 [some (vR w_), none, some (vR q), some (vz bf), some (vz tu)] [vz 1] _
          refine ab_pop d_PW_all_83 rfl ?_
          have hz44 : zT n235 4002 ≤ 12006 := zT_le (c := 4002) (by omega) rfl
          refine ab_aload_n d_PW_all_84 rfl ?_
          refine ab_getf (fs := [vR f_ready, vR f_tape, vR f_reader, vR f_programs, vR f_subject, vR f_spans, vR f_threads, vR f_marks, vR f_oneMind, vR f_states, vR f_latest, vR f_matches, vR f_pieces, vR f_template, vR f_result, vR f_spare, vz cmp, vz ovs]) f_PW_76 d_PW_all_85 hw_.2.2 rfl ?_
          refine ab_aload_n d_PW_all_88 rfl ?_
          refine ab_getf (fs := [vR f_ready, vR f_tape, vR f_reader, vR f_programs, vR f_subject, vR f_spans, vR f_threads, vR f_marks, vR f_oneMind, vR f_states, vR f_latest, vR f_matches, vR f_pieces, vR f_template, vR f_result, vR f_spare, vz cmp, vz ovs]) f_PW_42 d_PW_all_89 hw_.2.2 rfl ?_
          refine zz_iconst d_PW_all_92 ?_
          refine zz_iald d_PW_all_93 hf_spans (by omega) ?_
          refine ab_callV (d' := d - 1) (as := [vz (SP216 1)]) (st := []) (r := _) (z_RW_add (o := o33) (r := f_matches) (b := b234) (lr := 71) (lb := 72) (n := n235) (lim := 4002) (sz := (sz_a + 1)) (f := f236) (x := (SP216 1)) hf_matches hb234 (by omega) (by have h18 : ab_n0 = 18 := rfl; omega) (by omega) (by omega) (by omega)) (fun oc G2 h => by rcases h with ⟨h, _⟩ | ⟨_, _, _, _, h, _⟩ <;> exact ⟨_, h⟩) (by omega) m_RW_add ml_PW_197 im_RW_add se_RW_add c_RW hf_matches.2.2 (Nat.le_of_ble_eq_true rfl) d_PW_all_94 rfl ?_
          intro v G45 hq
          rcases hq with ⟨hv, hGe, hq46⟩ | ⟨o47, b248, n249, f250, hv, hfk, hNf_matches, hNb248, hq51, hq52, hq53, hq54, hq55, hq56⟩
          · cases hv
            rw [hGe]
            change ab_W _ _ _ G31 97 [some (vR w_), none, some (vR q), some (vz bf), some (vz tu)] [vz 0] _
            exfalso; omega
          · cases hv
            have hw_ := hfk.get hw_ (by decide)
            have hf_spans := hfk.get hf_spans (by decide)
            have hq := hfk.get hq (by simp only [List.mem_cons, List.not_mem_nil, or_false]; omega)
            have hki := hfk.get hki (by simp only [List.mem_cons, List.not_mem_nil, or_false]; omega)
            have hne := hfk.get hne (by simp only [List.mem_cons, List.not_mem_nil, or_false]; omega)
            have hot := hfk.get hot (by simp only [List.mem_cons, List.not_mem_nil, or_false]; omega)
            have hra := hfk.get hra (by simp only [List.mem_cons, List.not_mem_nil, or_false]; omega)
            have hf_subject := hfk.get hf_subject (by decide)
            have hco := hfk.get hco (by decide)
            have hre := hfk.get hre (by decide)
            have hho := hfk.get hho (by decide)
            have pmkB_f_marks := mkB.fr hfk pmkB_f_marks (by decide) (by decide) (by decide) (by decide)
            have hfr := hfr.tr hfk (by decide)
            have hq57 := hfk.1
            have hf_matches := hNf_matches
            have hb248 := hNb248
            change ab_W _ _ _ G45 97 [some (vR w_), none, some (vR q), some (vz bf), some (vz tu)] [vz 1] _
            refine ab_pop d_PW_all_97 rfl ?_
            refine ab_aload_n d_PW_all_98 rfl ?_
            refine ab_getf (fs := [vR f_ready, vR f_tape, vR f_reader, vR f_programs, vR f_subject, vR f_spans, vR f_threads, vR f_marks, vR f_oneMind, vR f_states, vR f_latest, vR f_matches, vR f_pieces, vR f_template, vR f_result, vR f_spare, vz cmp, vz ovs]) f_PW_42 d_PW_all_99 hw_.2.2 rfl ?_
            refine zz_iconst d_PW_all_102 ?_
            refine zz_iald d_PW_all_103 hf_spans (by omega) ?_
            refine ab_istore_n d_PW_all_104 (Nat.le_of_ble_eq_true rfl) (Nat.le_of_ble_eq_true rfl) rfl ?_
            change ab_W _ _ _ G45 105 [some (vR w_), none, some (vR q), some (vz (SP216 1)), some (vz tu)] [] _
            refine zz_iinc d_PW_all_105 rfl (Nat.le_of_ble_eq_true rfl) (Nat.le_of_ble_eq_true rfl) rfl ?_
            change ab_W _ _ _ G45 108 [some (vR w_), none, some (vR q), some (vz (SP216 1)), some (vz (tu + 1))] [] _
            refine ab_goto (tgt := 50) d_PW_all_108 (by decide) ?_
            exact ih (ns := ns215) (SP := SP216) (it_a := b248) (sz_a := ((sz_a + 1) + 1)) (mr_a := n249) (F_a := f250) (bf := (SP216 1)) (tu := (tu + 1)) (stm := sm217) (un := un218) hw_ hf_spans hq hki hne hot hra hf_subject hco hre hho hf_matches hb248 pmkB_f_marks (by omega) hq20 (by omega) (by omega) (by omega) (by omega) (by omega) hfr (by omega) hk0
set_option maxRecDepth 100000 in
set_option maxHeartbeats 4000000 in
theorem z_PW_all {X : ab_X} {d : Nat} {o : Nat → Nat} {G : ab_G} {w_ : Nat} {f_ready : Nat} {f_tape : Nat} {f_reader : Nat} {f_programs : Nat} {f_subject : Nat} {f_spans : Nat} {f_threads : Nat} {f_marks : Nat} {f_oneMind : Nat} {f_states : Nat} {f_latest : Nat} {f_matches : Nat} {f_pieces : Nat} {f_template : Nat} {f_result : Nat} {f_spare : Nat} {cmp : Int} {ovs : Int} {PG : Nat → Option Nat} {NR : Nat → Nat} {cv : Int → Int} {on : Nat} {nm : Nat} {ns : Nat} {nt : Nat} {n : Int} {m : Nat} {SP : Int → Int} {it_a : Nat} {sz_a : Int} {mr_a : Nat} {F_a : Int → Int} {sl : Int} {k_ : Nat} (hw_ : cc o G w_ 18 (ab_ob 0 [vR f_ready, vR f_tape, vR f_reader, vR f_programs, vR f_subject, vR f_spans, vR f_threads, vR f_marks, vR f_oneMind, vR f_states, vR f_latest, vR f_matches, vR f_pieces, vR f_template, vR f_result, vR f_spare, vz cmp, vz ovs])) (hf_spans : cc o G f_spans 31 (za 20 SP)) (h17 : cc o G 17 17 (za 12 zFC)) (hf_programs : cc o G f_programs 81 (ab_rr 6 PG)) (hf_matches : cc o G f_matches 71 (ab_ob 7 [vz 4002, vR it_a, vz sz_a])) (hit_a : cc o G it_a 72 (za mr_a F_a)) (pthI_f_threads : thI o G f_threads 0) (pmkI_f_marks : mkI o G f_marks nm ns 0) (pomI_f_oneMind : omI o G f_oneMind on nt 0) (pstI_f_states : stI o G f_states cv cmp 0) (psuI_f_subject : suI o G f_subject n m) (ppgI_0 : pgI o G 0 PG NR cv cmp on) (n18 : ab_n0 = 18) (hkq : kq6 sl k_) (cr : -2147483648 ≤ sl ∧ sl ≤ 2147483647) (jsp : rgs SP 20 (-1) 2000) (crw_a : 0 ≤ sz_a ∧ sz_a ≤ ↑mr_a ∧ ↑mr_a ≤ (4002 : Int) ∧ 32 ≤ mr_a) (rc : 64 * G.length + 4600000 ≤ 64 * (ab_n0 + room_1.cells) + (64 * nm + 64 * stC ns + nt + onP on)) (rs : ab_slots G + 2360000 ≤ room_1.slots + (zT nm 52026 + stT ns + 2 * nt + onS on)) (hd : 16 ≤ d) : ab_F X d y_PW_all (.code y_PW_all b_PW_all 5 (some (.int))) [vR w_, vz sl] G (fun oc G2 => (∃ o2 : Nat → Nat, ∃ b : Nat, oc = .threw b ∧ fx o o2 [18, 31, 71, 72, 32, 33, 35, 36, 37, 38, 39, 40, 44, 45, 46, 47, 50, 51, 52, 53, 54, 55, 56, 57, 60, 61, 62, 63, 64, 65, 66, 67, 68] G G2 ∧ cc o2 G2 w_ 18 (ab_ob 0 [vR f_ready, vR f_tape, vR f_reader, vR f_programs, vR f_subject, vR f_spans, vR f_threads, vR f_marks, vR f_oneMind, vR f_states, vR f_latest, vR f_matches, vR f_pieces, vR f_template, vR f_result, vR f_spare, vz cmp, vz ovs]) ∧ cc o2 G2 f_spans 31 (za 20 SP) ∧ cc o2 G2 f_matches 71 (ab_ob 7 [vz 4002, vR it_a, vz sz_a]) ∧ cc o2 G2 it_a 72 (za mr_a F_a) ∧ thI o2 G2 f_threads 0 ∧ mkI o2 G2 f_marks nm ns 0 ∧ omI o2 G2 f_oneMind on nt 0 ∧ stI o2 G2 f_states cv cmp 0 ∧ suI o2 G2 f_subject n m ∧ pgI o2 G2 0 PG NR cv cmp on ∧ (G2[b]? = some (.inr (13, []))) ∧ (G2.length = G.length + 1) ∧ (ab_slots G2 = ab_slots G + 6)) ∨ (∃ o2 : Nat → Nat, ∃ nm2 : Nat, ∃ ns2 : Nat, ∃ SP2 : Int → Int, ∃ r : Int, ∃ it2 : Nat, ∃ sz2 : Int, ∃ mr2 : Nat, ∃ F2 : Int → Int, oc = .returned (some (vz r)) ∧ fx o o2 [18, 31, 71, 72, 32, 33, 35, 36, 37, 38, 39, 40, 44, 45, 46, 47, 50, 51, 52, 53, 54, 55, 56, 57, 60, 61, 62, 63, 64, 65, 66, 67, 68] G G2 ∧ cc o2 G2 w_ 18 (ab_ob 0 [vR f_ready, vR f_tape, vR f_reader, vR f_programs, vR f_subject, vR f_spans, vR f_threads, vR f_marks, vR f_oneMind, vR f_states, vR f_latest, vR f_matches, vR f_pieces, vR f_template, vR f_result, vR f_spare, vz cmp, vz ovs]) ∧ cc o2 G2 f_spans 31 (za 20 SP2) ∧ cc o2 G2 f_matches 71 (ab_ob 7 [vz 4002, vR it2, vz sz2]) ∧ cc o2 G2 it2 72 (za mr2 F2) ∧ thI o2 G2 f_threads 0 ∧ mkI o2 G2 f_marks nm2 ns2 0 ∧ omI o2 G2 f_oneMind on nt 0 ∧ stI o2 G2 f_states cv cmp 0 ∧ suI o2 G2 f_subject n m ∧ pgI o2 G2 0 PG NR cv cmp on ∧ (rgs SP2 20 (-1) 2000) ∧ (0 ≤ sz2 ∧ sz2 ≤ ↑mr2 ∧ ↑mr2 ≤ (4002 : Int) ∧ 32 ≤ mr2) ∧ (64 * G2.length + (64 * nm + 64 * stC ns + nt + onP on + 64 * mr_a) ≤ 64 * G.length + (64 * nm2 + 64 * stC ns2 + nt + onP on + 64 * mr2)) ∧ (ab_slots G2 + (zT nm 52026 + stT ns + 2 * nt + onS on + zT mr_a 4002) ≤ ab_slots G + (zT nm2 52026 + stT ns2 + 2 * nt + onS on + zT mr2 4002)))) := by
  refine ab_F_of (by decide +kernel) (Nat.le_of_ble_eq_true rfl) ?_
  obtain ⟨Q, hQ⟩ : ∃ z : Outcome → ab_G → Prop, z = (fun oc G2 => (∃ o2 : Nat → Nat, ∃ b : Nat, oc = .threw b ∧ fx o o2 [18, 31, 71, 72, 32, 33, 35, 36, 37, 38, 39, 40, 44, 45, 46, 47, 50, 51, 52, 53, 54, 55, 56, 57, 60, 61, 62, 63, 64, 65, 66, 67, 68] G G2 ∧ cc o2 G2 w_ 18 (ab_ob 0 [vR f_ready, vR f_tape, vR f_reader, vR f_programs, vR f_subject, vR f_spans, vR f_threads, vR f_marks, vR f_oneMind, vR f_states, vR f_latest, vR f_matches, vR f_pieces, vR f_template, vR f_result, vR f_spare, vz cmp, vz ovs]) ∧ cc o2 G2 f_spans 31 (za 20 SP) ∧ cc o2 G2 f_matches 71 (ab_ob 7 [vz 4002, vR it_a, vz sz_a]) ∧ cc o2 G2 it_a 72 (za mr_a F_a) ∧ thI o2 G2 f_threads 0 ∧ mkI o2 G2 f_marks nm ns 0 ∧ omI o2 G2 f_oneMind on nt 0 ∧ stI o2 G2 f_states cv cmp 0 ∧ suI o2 G2 f_subject n m ∧ pgI o2 G2 0 PG NR cv cmp on ∧ (G2[b]? = some (.inr (13, []))) ∧ (G2.length = G.length + 1) ∧ (ab_slots G2 = ab_slots G + 6)) ∨ (∃ o2 : Nat → Nat, ∃ nm2 : Nat, ∃ ns2 : Nat, ∃ SP2 : Int → Int, ∃ r : Int, ∃ it2 : Nat, ∃ sz2 : Int, ∃ mr2 : Nat, ∃ F2 : Int → Int, oc = .returned (some (vz r)) ∧ fx o o2 [18, 31, 71, 72, 32, 33, 35, 36, 37, 38, 39, 40, 44, 45, 46, 47, 50, 51, 52, 53, 54, 55, 56, 57, 60, 61, 62, 63, 64, 65, 66, 67, 68] G G2 ∧ cc o2 G2 w_ 18 (ab_ob 0 [vR f_ready, vR f_tape, vR f_reader, vR f_programs, vR f_subject, vR f_spans, vR f_threads, vR f_marks, vR f_oneMind, vR f_states, vR f_latest, vR f_matches, vR f_pieces, vR f_template, vR f_result, vR f_spare, vz cmp, vz ovs]) ∧ cc o2 G2 f_spans 31 (za 20 SP2) ∧ cc o2 G2 f_matches 71 (ab_ob 7 [vz 4002, vR it2, vz sz2]) ∧ cc o2 G2 it2 72 (za mr2 F2) ∧ thI o2 G2 f_threads 0 ∧ mkI o2 G2 f_marks nm2 ns2 0 ∧ omI o2 G2 f_oneMind on nt 0 ∧ stI o2 G2 f_states cv cmp 0 ∧ suI o2 G2 f_subject n m ∧ pgI o2 G2 0 PG NR cv cmp on ∧ (rgs SP2 20 (-1) 2000) ∧ (0 ≤ sz2 ∧ sz2 ≤ ↑mr2 ∧ ↑mr2 ≤ (4002 : Int) ∧ 32 ≤ mr2) ∧ (64 * G2.length + (64 * nm + 64 * stC ns + nt + onP on + 64 * mr_a) ≤ 64 * G.length + (64 * nm2 + 64 * stC ns2 + nt + onP on + 64 * mr2)) ∧ (ab_slots G2 + (zT nm 52026 + stT ns + 2 * nt + onS on + zT mr_a 4002) ≤ ab_slots G + (zT nm2 52026 + stT ns2 + 2 * nt + onS on + zT mr2 4002)))) := ⟨_, rfl⟩
  rw [← hQ]
  change ab_W X (ab_pl y_PW_all b_PW_all 5 (some (.int))) d G 0 [some (vR w_), some (vz sl), none, none, none] [] Q
  have hfr : fx o o [18, 31, 71, 72, 32, 33, 35, 36, 37, 38, 39, 40, 44, 45, 46, 47, 50, 51, 52, 53, 54, 55, 56, 57, 60, 61, 62, 63, 64, 65, 66, 67, 68] G G := fx.rf
  have hq1 := stT_le ns
  have hq2 := stC_le ns
  have hq3 := onP_le on
  have hq4 := onS_le on
  have hnt_ := pomI_f_oneMind.nt
  have hnm_ := pmkI_f_marks.b
  have hzt_ : zT nm 52026 ≤ 156078 := zT_le (c := 52026) (by omega) rfl
  refine ab_aload_n d_PW_all_0 rfl ?_
  refine ab_iload_n d_PW_all_1 rfl ?_
  refine ab_callV (d' := d - 1) (as := [vz sl]) (st := []) (r := _) (z_PW_programAt (o := o) (w_ := w_) (f_ready := f_ready) (f_tape := f_tape) (f_reader := f_reader) (f_programs := f_programs) (f_subject := f_subject) (f_spans := f_spans) (f_threads := f_threads) (f_marks := f_marks) (f_oneMind := f_oneMind) (f_states := f_states) (f_latest := f_latest) (f_matches := f_matches) (f_pieces := f_pieces) (f_template := f_template) (f_result := f_result) (f_spare := f_spare) (cmp := cmp) (ovs := ovs) (PG := PG) (k := sl) hw_ hf_programs (by omega)) (fun oc G2 h => by rcases h with ⟨h, _⟩ | ⟨_, h, _⟩ <;> exact ⟨_, h⟩) (by omega) m_PW_programAt ml_PW_148 im_PW_programAt se_PW_programAt c_PW hw_.2.2 (Nat.le_of_ble_eq_true rfl) d_PW_all_2 rfl ?_
  intro v G5 hq
  rcases hq with ⟨hv, hGe⟩ | ⟨b6, hv, hGe, hq7, hq8⟩
  · cases hv
    rw [hGe]
    change ab_W _ _ _ G 5 [some (vR w_), some (vz sl), none, none, none] [vN] _
    refine ab_astore_nN d_PW_all_5 (Nat.le_of_ble_eq_true rfl) (Nat.le_of_ble_eq_true rfl) rfl ?_
    change ab_W _ _ _ G 6 [some (vR w_), some (vz sl), some (vN), none, none] [] _
    refine ab_aload_nN d_PW_all_6 rfl ?_
    refine ab_ifnonnullN d_PW_all_7 ?_
    refine ab_throw (tx := "no pattern there") (by decide) (fun c h => h) cl_PW_109 inst_IA ini_IA tw_PW_113 d_PW_all_10 d_PW_all_13 d_PW_all_14 d_PW_all_16 d_PW_all_19 (by omega) (by omega) (by omega) ?_
    obtain ⟨G9, eG9⟩ : ∃ z : ab_G, z = G ++ [.inr (13, [])] := ⟨_, rfl⟩
    obtain ⟨o10, eo10⟩ : ∃ z : Nat → Nat, z = ol o G.length 99 := ⟨_, rfl⟩
    obtain ⟨a11, ea11⟩ : ∃ z : Nat, z = G.length := ⟨_, rfl⟩
    have hq12 := hit_a.n0 (by first | decide | omega)
    have ne_a11_w_ : nq a11 w_ := by have hlt := hw_.lt; unfold nq; omega
    have ne_a11_f_spans : nq a11 f_spans := by have hlt := hf_spans.lt; unfold nq; omega
    have ne_a11_17 : nq a11 17 := by have hlt := h17.lt; unfold nq; omega
    have ne_a11_f_programs : nq a11 f_programs := by have hlt := hf_programs.lt; unfold nq; omega
    have ne_a11_f_matches : nq a11 f_matches := by have hlt := hf_matches.lt; unfold nq; omega
    have ne_a11_it_a : nq a11 it_a := by have hlt := hit_a.lt; unfold nq; omega
    have hw_ := hw_.akeep (k := 99) eG9
    rw [← eo10] at hw_
    have hf_spans := hf_spans.akeep (k := 99) eG9
    rw [← eo10] at hf_spans
    have h17 := h17.akeep (k := 99) eG9
    rw [← eo10] at h17
    have hf_programs := hf_programs.akeep (k := 99) eG9
    rw [← eo10] at hf_programs
    have hf_matches := hf_matches.akeep (k := 99) eG9
    rw [← eo10] at hf_matches
    have hit_a := hit_a.akeep (k := 99) eG9
    rw [← eo10] at hit_a
    have hst := (fx.rf (o := o) (S := []) (G := G)).ap (k := 99) eG9
    rw [← eo10] at hst
    have pthI_f_threads := thI.fr hst pthI_f_threads (by decide) (by decide) (by decide) (by decide) (by decide) (by decide) (by decide) (by decide)
    have pmkI_f_marks := mkI.fr hst pmkI_f_marks (by decide) (by decide) (by decide) (by decide)
    have pomI_f_oneMind := omI.fr hst pomI_f_oneMind (by decide) (by decide) (by decide) (by decide) (by decide) (by decide) (by decide) (by decide)
    have pstI_f_states := stI.fr hst pstI_f_states (by decide) (by decide) (by decide) (by decide) (by decide) (by decide) (by decide) (by decide) (by decide)
    have psuI_f_subject := suI.fr hst psuI_f_subject (by decide) (by decide) (by decide) (by decide) (by decide)
    have ppgI_0 := pgI.fr hst ppgI_0  (by simp)
    have ha11 := cc.anew (o := o) 99 eG9 hq12
    rw [← eo10, ← ea11] at ha11
    have hfr := hfr.ap (k := 99) eG9
    rw [← eo10] at hfr
    have hq13 := z_alen eG9
    have hq14 : ab_slots G9 = ab_slots G + 6 := z_asl eG9 hq12
    rw [← ea11, ← eG9]
    rw [hQ]; exact (Or.inl ⟨_, _, rfl, hfr, hw_, hf_spans, hf_matches, hit_a, pthI_f_threads, pmkI_f_marks, pomI_f_oneMind, pstI_f_states, psuI_f_subject, ppgI_0, (by exact ha11.2.2), (by omega), (by omega)⟩)
  · cases hv
    rw [hGe]
    change ab_W _ _ _ G 5 [some (vR w_), some (vz sl), none, none, none] [vR b6] _
    refine ab_astore_n d_PW_all_5 (Nat.le_of_ble_eq_true rfl) (Nat.le_of_ble_eq_true rfl) rfl ?_
    change ab_W _ _ _ G 6 [some (vR w_), some (vz sl), some (vR b6), none, none] [] _
    refine ab_aload_n d_PW_all_6 rfl ?_
    refine ab_ifnonnull (tgt := 20) d_PW_all_7 (by decide) ?_
    have hk_ := hkq.2 (by omega) (by omega)
    rw [← hk_] at hq7
    have hk6_ : k_ < 6 := by omega
    obtain ⟨⟨mi_, sz_, ppgB_b6⟩, ppgX_0⟩ := ppgI_0.opn hk6_ hq7
    obtain ⟨ki_g, ne_g, ot_g, cnt_g, fi_g, la_g, ra_g, ru_g, gr_g, wi_g, fl_g, ve_g, na_g, nl_g, K_g, N_g, O_g, RR_g, NA_g, NL_g, hb6, hki_g, hne_g, hot_g, hra_g, hna_g, hnl_g, cq_g, hpu_g, hp_g, hr_g, hch_g, cru_g, ck9_g, cfi_g, cgr_g, cfl_g, hpo_g, hmi_g, hvc_g, cve_g, jnl_g, csz_g⟩ := ppgB_b6
    obtain ⟨by_, co, re, ho, f, C, Rs, H, mc, hf_subject, hby_, hco, hre, hho, csu, hsu⟩ := psuI_f_subject
    refine ab_aload_n d_PW_all_20 rfl ?_
    refine ab_getf (fs := [vR f_ready, vR f_tape, vR f_reader, vR f_programs, vR f_subject, vR f_spans, vR f_threads, vR f_marks, vR f_oneMind, vR f_states, vR f_latest, vR f_matches, vR f_pieces, vR f_template, vR f_result, vR f_spare, vz cmp, vz ovs]) f_PW_76 d_PW_all_21 hw_.2.2 rfl ?_
    refine ab_callV (d' := d - 1) (as := []) (st := []) (r := _) (z_RW_clear (o := o) (r := f_matches) (b := it_a) (lr := 71) (lim := 4002) (sz := sz_a) hf_matches (by have h18 : ab_n0 = 18 := rfl; omega)) (fun oc G2 h => by rcases h with ⟨h, _⟩ <;> exact ⟨_, h⟩) (by omega) m_RW_clear ml_PW_120 im_RW_clear se_RW_clear c_RW hf_matches.2.2 (Nat.le_of_ble_eq_true rfl) d_PW_all_24 rfl ?_
    intro v G15 hq
    rcases hq with ⟨hv, hfk, hlk, hsk, hNf_matches⟩
    cases hv
    have hw_ := hfk.get hw_ (by decide)
    have hf_spans := hfk.get hf_spans (by decide)
    have h17 := hfk.get h17 (by decide)
    have hf_programs := hfk.get hf_programs (by decide)
    have hit_a := hfk.get hit_a (by decide)
    have hb6 := hfk.get hb6 (by simp only [List.mem_cons, List.not_mem_nil, or_false]; omega)
    have hki_g := hfk.get hki_g (by simp only [List.mem_cons, List.not_mem_nil, or_false]; omega)
    have hne_g := hfk.get hne_g (by simp only [List.mem_cons, List.not_mem_nil, or_false]; omega)
    have hot_g := hfk.get hot_g (by simp only [List.mem_cons, List.not_mem_nil, or_false]; omega)
    have hra_g := hfk.get hra_g (by simp only [List.mem_cons, List.not_mem_nil, or_false]; omega)
    have hna_g := hfk.get hna_g (by simp only [List.mem_cons, List.not_mem_nil, or_false]; omega)
    have hnl_g := hfk.get hnl_g (by simp only [List.mem_cons, List.not_mem_nil, or_false]; omega)
    have hf_subject := hfk.get hf_subject (by decide)
    have hby_ := hfk.get hby_ (by decide)
    have hco := hfk.get hco (by decide)
    have hre := hfk.get hre (by decide)
    have hho := hfk.get hho (by decide)
    have pthI_f_threads := thI.fr hfk pthI_f_threads (by decide) (by decide) (by decide) (by decide) (by decide) (by decide) (by decide) (by decide)
    have pmkI_f_marks := mkI.fr hfk pmkI_f_marks (by decide) (by decide) (by decide) (by decide)
    have pomI_f_oneMind := omI.fr hfk pomI_f_oneMind (by decide) (by decide) (by decide) (by decide) (by decide) (by decide) (by decide) (by decide)
    have pstI_f_states := stI.fr hfk pstI_f_states (by decide) (by decide) (by decide) (by decide) (by decide) (by decide) (by decide) (by decide) (by decide)
    have ppgX_0 := pgX.fr hfk ppgX_0 (fun xx hx => Or.inl ((show ∀ y ∈ ([71] : List Nat), y < 100 by decide) xx hx))
    have hfr := hfr.tr hfk (by decide)
    have hq16 := hlk
    have hq17 := hsk
    have hf_matches := hNf_matches
    change ab_W _ _ _ G15 27 [some (vR w_), some (vz sl), some (vR b6), none, none] [] _
    refine zz_iconst d_PW_all_27 ?_
    refine ab_istore_n d_PW_all_28 (Nat.le_of_ble_eq_true rfl) (Nat.le_of_ble_eq_true rfl) rfl ?_
    change ab_W _ _ _ G15 29 [some (vR w_), some (vz sl), some (vR b6), some (vz (-1)), none] [] _
    refine ab_aload_n d_PW_all_29 rfl ?_
    refine ab_getf (fs := [vR f_ready, vR f_tape, vR f_reader, vR f_programs, vR f_subject, vR f_spans, vR f_threads, vR f_marks, vR f_oneMind, vR f_states, vR f_latest, vR f_matches, vR f_pieces, vR f_template, vR f_result, vR f_spare, vz cmp, vz ovs]) f_PW_55 d_PW_all_30 hw_.2.2 rfl ?_
    refine ab_aload_n d_PW_all_33 rfl ?_
    refine ab_aload_n d_PW_all_34 rfl ?_
    refine ab_getf (fs := [vR f_ready, vR f_tape, vR f_reader, vR f_programs, vR f_subject, vR f_spans, vR f_threads, vR f_marks, vR f_oneMind, vR f_states, vR f_latest, vR f_matches, vR f_pieces, vR f_template, vR f_result, vR f_spare, vz cmp, vz ovs]) f_PW_38 d_PW_all_35 hw_.2.2 rfl ?_
    refine zz_iconst d_PW_all_38 ?_
    refine zz_iconst d_PW_all_39 ?_
    refine ab_aload_n d_PW_all_40 rfl ?_
    refine ab_getf (fs := [vR f_ready, vR f_tape, vR f_reader, vR f_programs, vR f_subject, vR f_spans, vR f_threads, vR f_marks, vR f_oneMind, vR f_states, vR f_latest, vR f_matches, vR f_pieces, vR f_template, vR f_result, vR f_spare, vz cmp, vz ovs]) f_PW_42 d_PW_all_41 hw_.2.2 rfl ?_
    obtain ⟨wk_k, mk_k, stk_k, w_k, df_k, dp_k, fo_k, fy_k, hw_k, WK_k, M_k, SK_k, sp0_k, q0_k, s0_k, hf_marks, hwk_k, hmk_k, hstk_k, cn_k, hst_k, cfo_k, cst0_k⟩ := pmkI_f_marks
    refine ab_callV (d' := d - 1) (as := [vR b6, vR f_subject, vz 0, vz 0, vR f_spans]) (st := []) (r := _) (z_MK_begin (o := o) (q := b6) (lq := (100 + 10 * k_)) (ki := ki_g) (ne := ne_g) (ot := ot_g) (cnt := cnt_g) (fi := fi_g) (la := la_g) (ra := ra_g) (ru := ru_g) (gr := gr_g) (wi := wi_g) (sz := sz_) (fl := fl_g) (ve := ve_g) (mi := mi_) (na := na_g) (nl := nl_g) (s := f_subject) (by_ := by_) (co := co) (re := re) (ho := ho) (n := n) (a := f_marks) (sp := f_spans) (wk := wk_k) (mk := mk_k) (stk := stk_k) (dp := dp_k) (fo := fo_k) (hw := 0) (stp := 0) (M := M_k) (nm := nm) (q0 := q0_k) (s0 := s0_k) (sp0 := sp0_k) (from_ := 0) (hw0 := hw_k) (fy0 := fy_k) (w0 := w_k) (df0 := df_k) hf_marks hmk_k hb6 hf_subject (by omega) (by omega) (by omega) (by omega) (by omega) (by omega) (by omega)) (fun oc G2 h => by rcases h with ⟨_, _, _, _, _, _, h, _⟩ <;> exact ⟨_, h⟩) (by omega) m_MK_begin ml_PW_189 im_MK_begin se_MK_begin c_MK hf_marks.2.2 (Nat.le_of_ble_eq_true rfl) d_PW_all_44 rfl ?_
    intro v G18 hq
    rcases hq with ⟨o19, w220, fy221, mk222, nm223, M224, hv, hfk, hNf_marks, hNmk222, hq25, hq26, hq27, hq28, hq29, hq30, hq31⟩
    cases hv
    have hw_ := hfk.get hw_ (by decide)
    have hf_spans := hfk.get hf_spans (by decide)
    have h17 := hfk.get h17 (by decide)
    have hf_programs := hfk.get hf_programs (by decide)
    have hf_matches := hfk.get hf_matches (by decide)
    have hit_a := hfk.get hit_a (by decide)
    have hb6 := hfk.get hb6 (by simp only [List.mem_cons, List.not_mem_nil, or_false]; omega)
    have hki_g := hfk.get hki_g (by simp only [List.mem_cons, List.not_mem_nil, or_false]; omega)
    have hne_g := hfk.get hne_g (by simp only [List.mem_cons, List.not_mem_nil, or_false]; omega)
    have hot_g := hfk.get hot_g (by simp only [List.mem_cons, List.not_mem_nil, or_false]; omega)
    have hra_g := hfk.get hra_g (by simp only [List.mem_cons, List.not_mem_nil, or_false]; omega)
    have hna_g := hfk.get hna_g (by simp only [List.mem_cons, List.not_mem_nil, or_false]; omega)
    have hnl_g := hfk.get hnl_g (by simp only [List.mem_cons, List.not_mem_nil, or_false]; omega)
    have hf_subject := hfk.get hf_subject (by decide)
    have hby_ := hfk.get hby_ (by decide)
    have hco := hfk.get hco (by decide)
    have hre := hfk.get hre (by decide)
    have hho := hfk.get hho (by decide)
    have hwk_k := hfk.get hwk_k (by decide)
    have hstk_k := hfk.get hstk_k (by decide)
    have pthI_f_threads := thI.fr hfk pthI_f_threads (by decide) (by decide) (by decide) (by decide) (by decide) (by decide) (by decide) (by decide)
    have pomI_f_oneMind := omI.fr hfk pomI_f_oneMind (by decide) (by decide) (by decide) (by decide) (by decide) (by decide) (by decide) (by decide)
    have pstI_f_states := stI.fr hfk pstI_f_states (by decide) (by decide) (by decide) (by decide) (by decide) (by decide) (by decide) (by decide) (by decide)
    have ppgX_0 := pgX.fr hfk ppgX_0 (fun xx hx => Or.inl ((show ∀ y ∈ ([44, 46] : List Nat), y < 100 by decide) xx hx))
    have hfr := hfr.tr hfk (by decide)
    have hq32 := hfk.1
    have hf_marks := hNf_marks
    have hmk222 := hNmk222
    change ab_W _ _ _ G18 47 [some (vR w_), some (vz sl), some (vR b6), some (vz (-1)), none] [] _
    have hub_ := ucn_b (M := M224) (w := w220) (df := 0) (n := n) (by omega) (by omega)
    have pmkB_f_marks : mkB o19 G18 f_marks b6 f_subject f_spans nm223 ns cnt_g n 0 (ucn M224 w220 0 n) := ⟨wk_k, mk222, stk_k, w220, 0, dp_k, fo_k, fy221, 0, WK_k, M224, SK_k, hf_marks, hwk_k, hmk222, hstk_k, (by omega), hst_k, (by omega), (by omega), (by omega), (by omega), (by omega), (by omega)⟩
    have hzt2_ : zT nm223 52026 ≤ 156078 := zT_le (c := 52026) (by omega) rfl
    refine zz_iconst d_PW_all_47 ?_
    refine ab_istore d_PW_all_48 (Nat.le_of_ble_eq_true rfl) (Nat.le_of_ble_eq_true rfl) rfl ?_
    change ab_W _ _ _ G18 50 [some (vR w_), some (vz sl), some (vR b6), some (vz (-1)), some (vz 0)] [] _
    refine ab_less (L' := [some (vR w_), none, some (vR b6), some (vz (-1)), some (vz 0)]) (fun i v h => by rcases i with _ | _ | _ | _ | _ | i <;> first | exact h | (simp at h)) ?_
    refine y_PW_all_50 (w_ := w_) (f_ready := f_ready) (f_tape := f_tape) (f_reader := f_reader) (f_programs := f_programs) (f_subject := f_subject) (f_spans := f_spans) (f_threads := f_threads) (f_marks := f_marks) (f_oneMind := f_oneMind) (f_states := f_states) (f_latest := f_latest) (f_matches := f_matches) (f_pieces := f_pieces) (f_template := f_template) (f_result := f_result) (f_spare := f_spare) (cmp := cmp) (ovs := ovs) (q := b6) (lq := (100 + 10 * k_)) (ki := ki_g) (ne := ne_g) (ot := ot_g) (cnt := cnt_g) (fi := fi_g) (la := la_g) (ra := ra_g) (ru := ru_g) (gr := gr_g) (wi := wi_g) (sz := sz_) (fl := fl_g) (ve := ve_g) (mi := mi_) (K := K_g) (N := N_g) (O := O_g) (RR := RR_g) (nr := (NR k_)) (na := na_g) (nl := nl_g) (nm := nm223) (n := n) (by_ := by_) (co := co) (re := re) (ho := ho) (C := C) (Rs := Rs) (H := H) (mc := mc) (ns0 := ns) (mr0 := mr_a) (st0 := 0) (un0 := (ucn M224 w220 0 n)) (G0 := G18) (ns := ns) (SP := SP) (it_a := it_a) (sz_a := 0) (mr_a := mr_a) (F_a := F_a) (bf := (-1)) (tu := 0) (stm := 0) (un := (ucn M224 w220 0 n)) (by omega) (by omega) hp_g hr_g (by omega) (by omega) (by omega) hsu (by omega) (by omega) (by omega) (Int.toNat (n + 1 - 0) + 1) hw_ hf_spans hb6 hki_g hne_g hot_g hra_g hf_subject hco hre hho hf_matches hit_a pmkB_f_marks (by omega) jsp (by omega) (by omega) (by omega) (by omega) (by omega) fx.rf (by omega) (fun G33 o34 ns235 SP236 it237 sz238 mr239 F240 sm241 un242 hNf_spans hNf_matches hNit237 pNmkB_f_marks hq43 hq44 hq45 hq46 hq47 hq48 hfk => ?_)
    · have hw_ := hfk.get hw_ (by decide)
      have h17 := hfk.get h17 (by decide)
      have hf_programs := hfk.get hf_programs (by decide)
      have hb6 := hfk.get hb6 (by simp only [List.mem_cons, List.not_mem_nil, or_false]; omega)
      have hki_g := hfk.get hki_g (by simp only [List.mem_cons, List.not_mem_nil, or_false]; omega)
      have hne_g := hfk.get hne_g (by simp only [List.mem_cons, List.not_mem_nil, or_false]; omega)
      have hot_g := hfk.get hot_g (by simp only [List.mem_cons, List.not_mem_nil, or_false]; omega)
      have hra_g := hfk.get hra_g (by simp only [List.mem_cons, List.not_mem_nil, or_false]; omega)
      have hna_g := hfk.get hna_g (by simp only [List.mem_cons, List.not_mem_nil, or_false]; omega)
      have hnl_g := hfk.get hnl_g (by simp only [List.mem_cons, List.not_mem_nil, or_false]; omega)
      have hf_subject := hfk.get hf_subject (by decide)
      have hby_ := hfk.get hby_ (by decide)
      have hco := hfk.get hco (by decide)
      have hre := hfk.get hre (by decide)
      have hho := hfk.get hho (by decide)
      have pthI_f_threads := thI.fr hfk pthI_f_threads (by decide) (by decide) (by decide) (by decide) (by decide) (by decide) (by decide) (by decide)
      have pomI_f_oneMind := omI.fr hfk pomI_f_oneMind (by decide) (by decide) (by decide) (by decide) (by decide) (by decide) (by decide) (by decide)
      have pstI_f_states := stI.fr hfk pstI_f_states (by decide) (by decide) (by decide) (by decide) (by decide) (by decide) (by decide) (by decide) (by decide)
      have ppgX_0 := pgX.fr hfk ppgX_0 (fun xx hx => Or.inl ((show ∀ y ∈ ([31, 44, 45, 46, 47, 71, 72] : List Nat), y < 100 by decide) xx hx))
      have hfr := hfr.tr hfk (by decide)
      have hq49 := hfk.1
      have hf_spans := hNf_spans
      have hf_matches := hNf_matches
      have hit237 := hNit237
      have pmkB_f_marks := pNmkB_f_marks
      change ab_W _ _ _ G33 111 [some (vR w_), none, some (vR b6), none, none] [] _
      obtain ⟨wk_e, mk_e, stk_e, w_e, df_e, dp_e, fo_e, fy_e, hw_e, WK_e, M_e, SK_e, hf_marks, hwk_e, hmk_e, hstk_e, cn_e, hst_e, cf_e, cw_e, cm_e, cd_e, cst0_e, hun_e⟩ := pmkB_f_marks
      have hub2_ := ucn_b (M := M_e) (w := w_e) (df := df_e) (n := n) (by omega) (by omega)
      have pmkI_f_marks : mkI o34 G33 f_marks nm223 ns235 sm241 := ⟨wk_e, mk_e, stk_e, w_e, df_e, dp_e, fo_e, fy_e, hw_e, WK_e, M_e, SK_e, vR f_spans, vR b6, vR f_subject, hf_marks, hwk_e, hmk_e, hstk_e, (by omega), hst_e, (by omega), (by omega)⟩
      have hq50 := stT_le ns235
      have hq51 := stC_le ns235
      have hq52 := onP_le on
      have hq53 := onS_le on
      have hz54 : zT mr239 4002 ≤ 12006 := zT_le (c := 4002) (by omega) rfl
      refine ab_aload_n d_PW_all_111 rfl ?_
      refine ab_aload_n d_PW_all_112 rfl ?_
      refine ab_getf (fs := [vR ki_g, vR ne_g, vR ot_g, vz cnt_g, vz fi_g, vz la_g, vR ra_g, vz ru_g, vz gr_g, vz wi_g, vz sz_, vz fl_g, vz ve_g, vz mi_, vR na_g, vR nl_g]) f_PW_152 d_PW_all_113 hb6.2.2 rfl ?_
      refine ab_aload_n d_PW_all_116 rfl ?_
      refine ab_getf (fs := [vR f_ready, vR f_tape, vR f_reader, vR f_programs, vR f_subject, vR f_spans, vR f_threads, vR f_marks, vR f_oneMind, vR f_states, vR f_latest, vR f_matches, vR f_pieces, vR f_template, vR f_result, vR f_spare, vz cmp, vz ovs]) f_PW_76 d_PW_all_117 hw_.2.2 rfl ?_
      refine ab_getf (fs := [vz 4002, vR it237, vz sz238]) f_PW_101 d_PW_all_120 hf_matches.2.2 rfl ?_
      refine zz_iconst d_PW_all_123 ?_
      refine zz_idiv d_PW_all_124 (by omega) ?_
      have psuI_f_subject : suI o34 G33 f_subject n m := ⟨by_, co, re, ho, f, C, Rs, H, mc, hf_subject, hby_, hco, hre, hho, (by omega), hsu⟩
      refine ab_callV (d' := d - 1) (as := [vz sz_, vz (sz238 / 2)]) (st := []) (r := _) (z_PW_settle (o := o34) (w_ := w_) (f_ready := f_ready) (f_tape := f_tape) (f_reader := f_reader) (f_programs := f_programs) (f_subject := f_subject) (f_spans := f_spans) (f_threads := f_threads) (f_marks := f_marks) (f_oneMind := f_oneMind) (f_states := f_states) (f_latest := f_latest) (f_matches := f_matches) (f_pieces := f_pieces) (f_template := f_template) (f_result := f_result) (f_spare := f_spare) (cmp := cmp) (ovs := ovs) (cv := cv) (on := on) (nm := nm223) (ns := ns235) (nt := nt) (n := n) (m := m) (z1 := sz_) (z2 := (sz238 / 2)) (stt := 0) (stm := sm241) (sto := 0) (sts := 0) hw_ pthI_f_threads pmkI_f_marks pomI_f_oneMind pstI_f_states psuI_f_subject (by omega) (by omega) (cmo_k (by omega) (by omega) (by omega) (by omega)) (by omega)) (fun oc G2 h => by rcases h with ⟨h, _⟩ <;> exact ⟨_, h⟩) (by omega) m_PW_settle ml_PW_175 im_PW_settle se_PW_settle c_PW hw_.2.2 (Nat.le_of_ble_eq_true rfl) d_PW_all_125 rfl ?_
      intro v G55 hq
      rcases hq with ⟨hv, hfk, hlk, hsk, hNw_, pNthI_f_threads, pNmkI_f_marks, pNomI_f_oneMind, pNstI_f_states, pNsuI_f_subject⟩
      cases hv
      have hf_spans := hfk.get hf_spans (by decide)
      have h17 := hfk.get h17 (by decide)
      have hf_programs := hfk.get hf_programs (by decide)
      have hf_matches := hfk.get hf_matches (by decide)
      have hb6 := hfk.get hb6 (by simp only [List.mem_cons, List.not_mem_nil, or_false]; omega)
      have hki_g := hfk.get hki_g (by simp only [List.mem_cons, List.not_mem_nil, or_false]; omega)
      have hne_g := hfk.get hne_g (by simp only [List.mem_cons, List.not_mem_nil, or_false]; omega)
      have hot_g := hfk.get hot_g (by simp only [List.mem_cons, List.not_mem_nil, or_false]; omega)
      have hra_g := hfk.get hra_g (by simp only [List.mem_cons, List.not_mem_nil, or_false]; omega)
      have hna_g := hfk.get hna_g (by simp only [List.mem_cons, List.not_mem_nil, or_false]; omega)
      have hnl_g := hfk.get hnl_g (by simp only [List.mem_cons, List.not_mem_nil, or_false]; omega)
      have hit237 := hfk.get hit237 (by decide)
      have ppgX_0 := pgX.fr hfk ppgX_0 (fun xx hx => Or.inl ((show ∀ y ∈ ([18, 32, 44, 50, 60] : List Nat), y < 100 by decide) xx hx))
      have pthI_f_threads := pNthI_f_threads
      have pmkI_f_marks := pNmkI_f_marks
      have pomI_f_oneMind := pNomI_f_oneMind
      have pstI_f_states := pNstI_f_states
      have psuI_f_subject := pNsuI_f_subject
      have hfr := hfr.tr hfk (by decide)
      have hq56 := hlk
      have hq57 := hsk
      have hw_ := hNw_
      change ab_W _ _ _ G55 128 [some (vR w_), none, some (vR b6), none, none] [] _
      refine ab_aload_n d_PW_all_128 rfl ?_
      refine ab_getf (fs := [vR f_ready, vR f_tape, vR f_reader, vR f_programs, vR f_subject, vR f_spans, vR f_threads, vR f_marks, vR f_oneMind, vR f_states, vR f_latest, vR f_matches, vR f_pieces, vR f_template, vR f_result, vR f_spare, vz cmp, vz ovs]) f_PW_76 d_PW_all_129 hw_.2.2 rfl ?_
      refine ab_getf (fs := [vz 4002, vR it237, vz sz238]) f_PW_101 d_PW_all_132 hf_matches.2.2 rfl ?_
      refine zz_iconst d_PW_all_135 ?_
      refine zz_idiv d_PW_all_136 (by omega) ?_
      have hmq_ : onq mi_ on := hmi_g
      have ppgB_b6 : pgB o34 G55 b6 (100 + 10 * k_) (NR k_) cv cmp on mi_ sz_ := ⟨ki_g, ne_g, ot_g, cnt_g, fi_g, la_g, ra_g, ru_g, gr_g, wi_g, fl_g, ve_g, na_g, nl_g, K_g, N_g, O_g, RR_g, NA_g, NL_g, hb6, hki_g, hne_g, hot_g, hra_g, hna_g, hnl_g, (by omega), hpu_g, hp_g, hr_g, hch_g, (by omega), (by omega), (by omega), (by omega), (by omega), hpo_g, hmq_, (by omega), (by omega), jnl_g, (by omega)⟩
      have ppgI_0 := ppgX_0.cls hq7 ppgB_b6
      refine zz_iret rfl d_PW_all_137 ?_
      rw [hQ]; exact (Or.inr ⟨_, _, _, _, _, _, _, _, _, rfl, hfr, hw_, hf_spans, hf_matches, hit237, pthI_f_threads, pmkI_f_marks, pomI_f_oneMind, pstI_f_states, psuI_f_subject, ppgI_0, (by exact hq45), (by omega), (by omega), (by omega)⟩)
set_option maxRecDepth 100000 in
set_option maxHeartbeats 4000000 in
theorem y_PW_split_62 {X : ab_X} {d : Nat} {Q : Outcome → ab_G → Prop} {o0 : Nat → Nat} {G0 : ab_G} {w_ : Nat} {f_ready : Nat} {f_tape : Nat} {f_reader : Nat} {f_programs : Nat} {f_subject : Nat} {f_spans : Nat} {f_threads : Nat} {f_marks : Nat} {f_oneMind : Nat} {f_states : Nat} {f_latest : Nat} {f_matches : Nat} {f_pieces : Nat} {f_template : Nat} {f_result : Nat} {f_spare : Nat} {cmp : Int} {ovs : Int} {q : Nat} {lq : Nat} {ki : Nat} {ne : Nat} {ot : Nat} {cnt : Int} {fi : Int} {la : Int} {ra : Nat} {ru : Int} {gr : Int} {wi : Int} {sz : Int} {fl : Int} {ve : Int} {mi : Int} {K : Int → Int} {N : Int → Int} {O : Int → Int} {RR : Int → Int} {nr : Nat} {na : Nat} {nl : Nat} {nm : Nat} {n : Int} {m : Nat} {by_ : Nat} {co : Nat} {re : Nat} {ho : Nat} {f : Int → Int} {C : Int → Int} {Rs : Int → Int} {H : Int → Int} {mc : Nat} {ns0 : Nat} {mr0 : Nat} {st0 : Int} {un0 : Int} (n18 : ab_n0 = 18) (cq : 100 ≤ lq ∧ 2 ≤ cnt ∧ cnt ≤ 808 ∧ ↑nr ≤ (100000 : Int)) (hp : prok K N O RR cnt ↑nr wi) (hr : ∀ k : Int, 0 ≤ k → k < ↑nr → 0 ≤ RR k ∧ RR k ≤ 1114111) (cfi : 0 ≤ fi ∧ fi < cnt) (cwi : 2 ≤ wi ∧ wi ≤ 20) (csu : 0 ≤ n ∧ n ≤ ↑m ∧ 32 ≤ m ∧ m ≤ 2000 ∧ mc = m + 1) (hsu : suok f C Rs H n) (rc : G0.length + 4500 ≤ ab_n0 + room_1.cells) (rs : ab_slots G0 + 1940000 ≤ room_1.slots + stT ns0 + zT mr0 4004) (hd : 11 ≤ d) : ∀ (mz : Nat) {G : ab_G} {o : Nat → Nat} {ns : Nat} {SP : Int → Int} {it_a : Nat} {sz_a : Int} {mr_a : Nat} {F_a : Int → Int} {bf : Int} {tu : Int} {ct_ : Int} {stm : Int} {un : Int}, (cc o G w_ 18 (ab_ob 0 [vR f_ready, vR f_tape, vR f_reader, vR f_programs, vR f_subject, vR f_spans, vR f_threads, vR f_marks, vR f_oneMind, vR f_states, vR f_latest, vR f_matches, vR f_pieces, vR f_template, vR f_result, vR f_spare, vz cmp, vz ovs])) → (cc o G f_spans 31 (za 20 SP)) → (cc o G q lq (ab_ob 5 [vR ki, vR ne, vR ot, vz cnt, vz fi, vz la, vR ra, vz ru, vz gr, vz wi, vz sz, vz fl, vz ve, vz mi, vR na, vR nl])) → (cc o G ki (lq + 1) (za 808 K)) → (cc o G ne (lq + 2) (za 808 N)) → (cc o G ot (lq + 3) (za 808 O)) → (cc o G ra (lq + 4) (za nr RR)) → (cc o G f_subject 26 (ab_ob 9 [vR by_, vR co, vR re, vR ho, vz n])) → (cc o G co 28 (za mc C)) → (cc o G re 29 (za mc Rs)) → (cc o G ho 30 (za mc H)) → (cc o G f_pieces 73 (ab_ob 7 [vz 4004, vR it_a, vz sz_a])) → (cc o G it_a 74 (za mr_a F_a)) → (mkB o G f_marks q f_subject f_spans nm ns cnt n stm un) → (0 ≤ tu ∧ tu ≤ n + 1 ∧ -1 ≤ bf ∧ bf ≤ n ∧ 0 ≤ ct_ ∧ ct_ ≤ tu) → (rgs SP 20 (-1) 2000) → (0 ≤ sz_a ∧ sz_a ≤ ↑mr_a ∧ ↑mr_a ≤ (4004 : Int) ∧ 32 ≤ mr_a) → (G.length + stC ns0 + mr0 ≤ G0.length + stC ns + mr_a) → (ab_slots G + stT ns0 + zT mr0 4004 ≤ ab_slots G0 + stT ns + zT mr_a 4004) → (st0 ≤ stm ∧ stm + 2 * un ≤ st0 + 2 * un0 + 7340 * tu) → (ct_ = tu) → (fx o0 o [31, 44, 45, 46, 47, 73, 74] G0 G) → (Int.toNat (n + 1 - tu) < mz) → (∀ (G2 : ab_G) (o2 : Nat → Nat) (ns2 : Nat) (SP2 : Int → Int) (ct2 : Int) (it2 : Nat) (sz2 : Int) (mr2 : Nat) (F2 : Int → Int) (sm2 : Int) (un2 : Int), (cc o2 G2 f_spans 31 (za 20 SP2)) → (cc o2 G2 f_pieces 73 (ab_ob 7 [vz 4004, vR it2, vz sz2])) → (cc o2 G2 it2 74 (za mr2 F2)) → (mkB o2 G2 f_marks q f_subject f_spans nm ns2 cnt n sm2 un2) → (st0 ≤ sm2 ∧ sm2 + 2 * un2 ≤ st0 + 2 * un0 + 7340 + 7340 * ct2) → (rgs SP2 20 (-1) 2000) → (0 ≤ sz2 ∧ sz2 ≤ ↑mr2 ∧ ↑mr2 ≤ (4004 : Int) ∧ 32 ≤ mr2) → (G2.length + stC ns0 + mr0 ≤ G0.length + stC ns2 + mr2) → (ab_slots G2 + stT ns0 + zT mr0 4004 ≤ ab_slots G0 + stT ns2 + zT mr2 4004) → (0 ≤ ct2 ∧ ct2 ≤ 2001) → (fx o0 o2 [31, 44, 45, 46, 47, 73, 74] G0 G2) → ab_W X (ab_pl y_PW_split b_PW_split 7 (some (.int))) d G2 178 [some (vR w_), none, some (vR q), none, some (vz ct2), none, none] [] Q) → ab_W X (ab_pl y_PW_split b_PW_split 7 (some (.int))) d G 62 [some (vR w_), none, some (vR q), some (vz bf), some (vz ct_), some (vz tu), none] [] Q := by
  intro mz
  induction mz with
  | zero => intro G o ns SP it_a sz_a mr_a F_a bf tu ct_ stm un hw_ hf_spans hq hki hne hot hra hf_subject hco hre hho hf_pieces hit_a pmkB_f_marks ci jsp crw_a hg hs hst9 cnt9 hfr hm hk0; exact absurd hm (Nat.not_lt_zero _)
  | succ mz ih =>
    intro G o ns SP it_a sz_a mr_a F_a bf tu ct_ stm un hw_ hf_spans hq hki hne hot hra hf_subject hco hre hho hf_pieces hit_a pmkB_f_marks ci jsp crw_a hg hs hst9 cnt9 hfr hm hk0
    have hq1 := stT_le ns
    have hq2 := stC_le ns
    have hza_ : zT mr_a 4004 ≤ 12012 := zT_le (c := 4004) (by omega) rfl
    refine ab_iload d_PW_split_62 rfl ?_
    refine ab_aload_n d_PW_split_64 rfl ?_
    refine ab_getf (fs := [vR f_ready, vR f_tape, vR f_reader, vR f_programs, vR f_subject, vR f_spans, vR f_threads, vR f_marks, vR f_oneMind, vR f_states, vR f_latest, vR f_matches, vR f_pieces, vR f_template, vR f_result, vR f_spare, vz cmp, vz ovs]) f_PW_38 d_PW_split_65 hw_.2.2 rfl ?_
    refine ab_getf (fs := [vR by_, vR co, vR re, vR ho, vz n]) f_PW_164 d_PW_split_68 hf_subject.2.2 rfl ?_
    refine zz_icmp_gt (tgt := 178) d_PW_split_71 (by decide) (by omega) (by omega) (fun c3 => ?_) (fun c3 => ?_)
    · refine ab_less (L' := [some (vR w_), none, some (vR q), none, some (vz ct_), none, none]) (fun i v h => by rcases i with _ | _ | _ | _ | _ | _ | _ | i <;> first | exact h | (simp at h)) ?_
      exact hk0 _ _ _ _ _ _ _ _ _ _ _ hf_spans hf_pieces hit_a pmkB_f_marks (by omega) (by exact jsp) (by omega) (by omega) (by omega) (by omega) hfr
    · refine ab_aload_n d_PW_split_74 rfl ?_
      refine ab_iload_n d_PW_split_75 rfl ?_
      refine ab_callV (d' := d - 1) (as := [vz bf]) (st := []) (r := _) (z_PW_hunt (o := o) (w_ := w_) (f_ready := f_ready) (f_tape := f_tape) (f_reader := f_reader) (f_programs := f_programs) (f_subject := f_subject) (f_spans := f_spans) (f_threads := f_threads) (f_marks := f_marks) (f_oneMind := f_oneMind) (f_states := f_states) (f_latest := f_latest) (f_matches := f_matches) (f_pieces := f_pieces) (f_template := f_template) (f_result := f_result) (f_spare := f_spare) (cmp := cmp) (ovs := ovs) (q := q) (lq := lq) (ki := ki) (ne := ne) (ot := ot) (cnt := cnt) (fi := fi) (la := la) (ra := ra) (ru := ru) (gr := gr) (wi := wi) (sz := sz) (fl := fl) (ve := ve) (mi := mi) (K := K) (N := N) (O := O) (RR := RR) (nr := nr) (na := na) (nl := nl) (nm := nm) (ns := ns) (n := n) (SP := SP) (by_ := by_) (co := co) (re := re) (ho := ho) (C := C) (Rs := Rs) (H := H) (mc := mc) (bf := bf) (stm := stm) (un := un) hw_ hf_spans hq hki hne hot hra hf_subject hco hre hho pmkB_f_marks (by omega) (by omega) hp hr (by omega) (by omega) (by omega) hsu jsp (by omega) (by omega) (by omega) (by omega)) (fun oc G2 h => by rcases h with ⟨_, _, _, _, _, h, _⟩ | ⟨_, _, _, _, _, h, _⟩ <;> exact ⟨_, h⟩) (by omega) m_PW_hunt ml_PW_193 im_PW_hunt se_PW_hunt c_PW hw_.2.2 (Nat.le_of_ble_eq_true rfl) d_PW_split_76 rfl ?_
      intro v G4 hq
      rcases hq with ⟨o5, ns26, SP27, sm28, un29, hv, hfk, hNf_spans, pNmkB_f_marks, hq10, hq11, hq12, hq13⟩ | ⟨o14, ns215, SP216, sm217, un218, hv, hfk, hNf_spans, pNmkB_f_marks, hq19, hq20, hq21, hq22, hq23, hq24⟩
      · cases hv
        have hw_ := hfk.get hw_ (by decide)
        have hq := hfk.get hq (by simp only [List.mem_cons, List.not_mem_nil, or_false]; omega)
        have hki := hfk.get hki (by simp only [List.mem_cons, List.not_mem_nil, or_false]; omega)
        have hne := hfk.get hne (by simp only [List.mem_cons, List.not_mem_nil, or_false]; omega)
        have hot := hfk.get hot (by simp only [List.mem_cons, List.not_mem_nil, or_false]; omega)
        have hra := hfk.get hra (by simp only [List.mem_cons, List.not_mem_nil, or_false]; omega)
        have hf_subject := hfk.get hf_subject (by decide)
        have hco := hfk.get hco (by decide)
        have hre := hfk.get hre (by decide)
        have hho := hfk.get hho (by decide)
        have hf_pieces := hfk.get hf_pieces (by decide)
        have hit_a := hfk.get hit_a (by decide)
        have pmkB_f_marks := pNmkB_f_marks
        have hfr := hfr.tr hfk (by decide)
        have hq25 := hfk.1
        have hf_spans := hNf_spans
        change ab_W _ _ _ G4 79 [some (vR w_), none, some (vR q), some (vz bf), some (vz ct_), some (vz tu), none] [vz 0] _
        refine zz_if_eq (tgt := 178) d_PW_split_79 (by decide) (by decide) (fun c27 => ?_) (fun c27 => absurd c27 (by decide))
        refine ab_less (L' := [some (vR w_), none, some (vR q), none, some (vz ct_), none, none]) (fun i v h => by rcases i with _ | _ | _ | _ | _ | _ | _ | i <;> first | exact h | (simp at h)) ?_
        exact hk0 _ _ _ _ _ _ _ _ _ _ _ hf_spans hf_pieces hit_a pmkB_f_marks (by omega) (by exact hq11) (by omega) (by omega) (by omega) (by omega) hfr
      · cases hv
        have hw_ := hfk.get hw_ (by decide)
        have hq := hfk.get hq (by simp only [List.mem_cons, List.not_mem_nil, or_false]; omega)
        have hki := hfk.get hki (by simp only [List.mem_cons, List.not_mem_nil, or_false]; omega)
        have hne := hfk.get hne (by simp only [List.mem_cons, List.not_mem_nil, or_false]; omega)
        have hot := hfk.get hot (by simp only [List.mem_cons, List.not_mem_nil, or_false]; omega)
        have hra := hfk.get hra (by simp only [List.mem_cons, List.not_mem_nil, or_false]; omega)
        have hf_subject := hfk.get hf_subject (by decide)
        have hco := hfk.get hco (by decide)
        have hre := hfk.get hre (by decide)
        have hho := hfk.get hho (by decide)
        have hf_pieces := hfk.get hf_pieces (by decide)
        have hit_a := hfk.get hit_a (by decide)
        have pmkB_f_marks := pNmkB_f_marks
        have hfr := hfr.tr hfk (by decide)
        have hq26 := hfk.1
        have hf_spans := hNf_spans
        change ab_W _ _ _ G4 79 [some (vR w_), none, some (vR q), some (vz bf), some (vz ct_), some (vz tu), none] [vz 1] _
        refine zz_if_eq (tgt := 178) d_PW_split_79 (by decide) (by decide) (fun c28 => absurd c28 (by decide)) (fun c28 => ?_)
        have hs0_ := hq20 0 (by omega) (by omega)
        have hs1_ := hq20 1 (by omega) (by omega)
        have hq29 := stT_le ns215
        have hq30 := stC_le ns215
        refine ab_aload_n d_PW_split_82 rfl ?_
        refine ab_getf (fs := [vR f_ready, vR f_tape, vR f_reader, vR f_programs, vR f_subject, vR f_spans, vR f_threads, vR f_marks, vR f_oneMind, vR f_states, vR f_latest, vR f_matches, vR f_pieces, vR f_template, vR f_result, vR f_spare, vz cmp, vz ovs]) f_PW_42 d_PW_split_83 hw_.2.2 rfl ?_
        refine zz_iconst d_PW_split_86 ?_
        refine zz_iald d_PW_split_87 hf_spans (by omega) ?_
        refine ab_istore_n d_PW_split_88 (Nat.le_of_ble_eq_true rfl) (Nat.le_of_ble_eq_true rfl) rfl ?_
        change ab_W _ _ _ G4 89 [some (vR w_), none, some (vR q), some (vz (SP216 1)), some (vz ct_), some (vz tu), none] [] _
        refine zz_iinc d_PW_split_89 rfl (Nat.le_of_ble_eq_true rfl) (Nat.le_of_ble_eq_true rfl) rfl ?_
        change ab_W _ _ _ G4 92 [some (vR w_), none, some (vR q), some (vz (SP216 1)), some (vz (ct_ + 1)), some (vz tu), none] [] _
        refine ab_aload_n d_PW_split_92 rfl ?_
        refine ab_getf (fs := [vR f_ready, vR f_tape, vR f_reader, vR f_programs, vR f_subject, vR f_spans, vR f_threads, vR f_marks, vR f_oneMind, vR f_states, vR f_latest, vR f_matches, vR f_pieces, vR f_template, vR f_result, vR f_spare, vz cmp, vz ovs]) f_PW_42 d_PW_split_93 hw_.2.2 rfl ?_
        refine zz_iconst d_PW_split_96 ?_
        refine zz_iald d_PW_split_97 hf_spans (by omega) ?_
        refine ab_aload_n d_PW_split_98 rfl ?_
        refine ab_getf (fs := [vR f_ready, vR f_tape, vR f_reader, vR f_programs, vR f_subject, vR f_spans, vR f_threads, vR f_marks, vR f_oneMind, vR f_states, vR f_latest, vR f_matches, vR f_pieces, vR f_template, vR f_result, vR f_spare, vz cmp, vz ovs]) f_PW_42 d_PW_split_99 hw_.2.2 rfl ?_
        refine zz_iconst d_PW_split_102 ?_
        refine zz_iald d_PW_split_103 hf_spans (by omega) ?_
        refine zz_icmp_lt (tgt := 132) d_PW_split_104 (by decide) (by omega) (by omega) (fun c31 => ?_) (fun c31 => ?_)
        · refine zz_iconst d_PW_split_132 ?_
          refine ab_goto (tgt := 137) d_PW_split_133 (by decide) ?_
          refine ab_istore d_PW_split_137 (Nat.le_of_ble_eq_true rfl) (Nat.le_of_ble_eq_true rfl) rfl ?_
          change ab_W _ _ _ G4 139 [some (vR w_), none, some (vR q), some (vz (SP216 1)), some (vz (ct_ + 1)), some (vz tu), some (vz 1)] [] _
          refine ab_iload d_PW_split_139 rfl ?_
          refine zz_if_eq (tgt := 172) d_PW_split_141 (by decide) (by decide) (fun c32 => absurd c32 (by decide)) (fun c32 => ?_)
          refine ab_aload_n d_PW_split_144 rfl ?_
          refine ab_getf (fs := [vR f_ready, vR f_tape, vR f_reader, vR f_programs, vR f_subject, vR f_spans, vR f_threads, vR f_marks, vR f_oneMind, vR f_states, vR f_latest, vR f_matches, vR f_pieces, vR f_template, vR f_result, vR f_spare, vz cmp, vz ovs]) f_PW_79 d_PW_split_145 hw_.2.2 rfl ?_
          refine ab_aload_n d_PW_split_148 rfl ?_
          refine ab_getf (fs := [vR f_ready, vR f_tape, vR f_reader, vR f_programs, vR f_subject, vR f_spans, vR f_threads, vR f_marks, vR f_oneMind, vR f_states, vR f_latest, vR f_matches, vR f_pieces, vR f_template, vR f_result, vR f_spare, vz cmp, vz ovs]) f_PW_42 d_PW_split_149 hw_.2.2 rfl ?_
          refine zz_iconst d_PW_split_152 ?_
          refine zz_iald d_PW_split_153 hf_spans (by omega) ?_
          refine ab_callV (d' := d - 1) (as := [vz (SP216 0)]) (st := []) (r := _) (z_RW_add (o := o14) (r := f_pieces) (b := it_a) (lr := 73) (lb := 74) (n := mr_a) (lim := 4004) (sz := sz_a) (f := F_a) (x := (SP216 0)) hf_pieces hit_a (by omega) (by have h18 : ab_n0 = 18 := rfl; omega) (by omega) (by omega) (by omega)) (fun oc G2 h => by rcases h with ⟨h, _⟩ | ⟨_, _, _, _, h, _⟩ <;> exact ⟨_, h⟩) (by omega) m_RW_add ml_PW_197 im_RW_add se_RW_add c_RW hf_pieces.2.2 (Nat.le_of_ble_eq_true rfl) d_PW_split_154 rfl ?_
          intro v G33 hq
          rcases hq with ⟨hv, hGe, hq34⟩ | ⟨o35, b236, n237, f238, hv, hfk, hNf_pieces, hNb236, hq39, hq40, hq41, hq42, hq43, hq44⟩
          · cases hv
            rw [hGe]
            change ab_W _ _ _ G4 157 [some (vR w_), none, some (vR q), some (vz (SP216 1)), some (vz (ct_ + 1)), some (vz tu), some (vz 1)] [vz 0] _
            refine ab_pop d_PW_split_157 rfl ?_
            have hz46 : zT mr_a 4004 ≤ 12012 := zT_le (c := 4004) (by omega) rfl
            refine ab_aload_n d_PW_split_158 rfl ?_
            refine ab_getf (fs := [vR f_ready, vR f_tape, vR f_reader, vR f_programs, vR f_subject, vR f_spans, vR f_threads, vR f_marks, vR f_oneMind, vR f_states, vR f_latest, vR f_matches, vR f_pieces, vR f_template, vR f_result, vR f_spare, vz cmp, vz ovs]) f_PW_79 d_PW_split_159 hw_.2.2 rfl ?_
            refine ab_aload_n d_PW_split_162 rfl ?_
            refine ab_getf (fs := [vR f_ready, vR f_tape, vR f_reader, vR f_programs, vR f_subject, vR f_spans, vR f_threads, vR f_marks, vR f_oneMind, vR f_states, vR f_latest, vR f_matches, vR f_pieces, vR f_template, vR f_result, vR f_spare, vz cmp, vz ovs]) f_PW_42 d_PW_split_163 hw_.2.2 rfl ?_
            refine zz_iconst d_PW_split_166 ?_
            refine zz_iald d_PW_split_167 hf_spans (by omega) ?_
            refine ab_callV (d' := d - 1) (as := [vz (SP216 1)]) (st := []) (r := _) (z_RW_add (o := o14) (r := f_pieces) (b := it_a) (lr := 73) (lb := 74) (n := mr_a) (lim := 4004) (sz := sz_a) (f := F_a) (x := (SP216 1)) hf_pieces hit_a (by omega) (by have h18 : ab_n0 = 18 := rfl; omega) (by omega) (by omega) (by omega)) (fun oc G2 h => by rcases h with ⟨h, _⟩ | ⟨_, _, _, _, h, _⟩ <;> exact ⟨_, h⟩) (by omega) m_RW_add ml_PW_197 im_RW_add se_RW_add c_RW hf_pieces.2.2 (Nat.le_of_ble_eq_true rfl) d_PW_split_168 rfl ?_
            intro v G47 hq
            rcases hq with ⟨hv, hGe, hq48⟩ | ⟨o49, b250, n251, f252, hv, hfk, hNf_pieces, hNb250, hq53, hq54, hq55, hq56, hq57, hq58⟩
            · cases hv
              rw [hGe]
              change ab_W _ _ _ G4 171 [some (vR w_), none, some (vR q), some (vz (SP216 1)), some (vz (ct_ + 1)), some (vz tu), some (vz 1)] [vz 0] _
              refine ab_pop d_PW_split_171 rfl ?_
              refine zz_iinc d_PW_split_172 rfl (Nat.le_of_ble_eq_true rfl) (Nat.le_of_ble_eq_true rfl) rfl ?_
              change ab_W _ _ _ G4 175 [some (vR w_), none, some (vR q), some (vz (SP216 1)), some (vz (ct_ + 1)), some (vz (tu + 1)), some (vz 1)] [] _
              refine ab_goto (tgt := 62) d_PW_split_175 (by decide) ?_
              refine ab_less (L' := [some (vR w_), none, some (vR q), some (vz (SP216 1)), some (vz (ct_ + 1)), some (vz (tu + 1)), none]) (fun i v h => by rcases i with _ | _ | _ | _ | _ | _ | _ | i <;> first | exact h | (simp at h)) ?_
              exact ih (ns := ns215) (SP := SP216) (it_a := it_a) (sz_a := sz_a) (mr_a := mr_a) (F_a := F_a) (bf := (SP216 1)) (tu := (tu + 1)) (ct_ := (ct_ + 1)) (stm := sm217) (un := un218) hw_ hf_spans hq hki hne hot hra hf_subject hco hre hho hf_pieces hit_a pmkB_f_marks (by omega) hq20 (by omega) (by omega) (by omega) (by omega) (by omega) hfr (by omega) hk0
            · cases hv
              have hw_ := hfk.get hw_ (by decide)
              have hf_spans := hfk.get hf_spans (by decide)
              have hq := hfk.get hq (by simp only [List.mem_cons, List.not_mem_nil, or_false]; omega)
              have hki := hfk.get hki (by simp only [List.mem_cons, List.not_mem_nil, or_false]; omega)
              have hne := hfk.get hne (by simp only [List.mem_cons, List.not_mem_nil, or_false]; omega)
              have hot := hfk.get hot (by simp only [List.mem_cons, List.not_mem_nil, or_false]; omega)
              have hra := hfk.get hra (by simp only [List.mem_cons, List.not_mem_nil, or_false]; omega)
              have hf_subject := hfk.get hf_subject (by decide)
              have hco := hfk.get hco (by decide)
              have hre := hfk.get hre (by decide)
              have hho := hfk.get hho (by decide)
              have pmkB_f_marks := mkB.fr hfk pmkB_f_marks (by decide) (by decide) (by decide) (by decide)
              have hfr := hfr.tr hfk (by decide)
              have hq59 := hfk.1
              have hf_pieces := hNf_pieces
              have hb250 := hNb250
              change ab_W _ _ _ G47 171 [some (vR w_), none, some (vR q), some (vz (SP216 1)), some (vz (ct_ + 1)), some (vz tu), some (vz 1)] [vz 1] _
              exfalso; omega
          · cases hv
            have hw_ := hfk.get hw_ (by decide)
            have hf_spans := hfk.get hf_spans (by decide)
            have hq := hfk.get hq (by simp only [List.mem_cons, List.not_mem_nil, or_false]; omega)
            have hki := hfk.get hki (by simp only [List.mem_cons, List.not_mem_nil, or_false]; omega)
            have hne := hfk.get hne (by simp only [List.mem_cons, List.not_mem_nil, or_false]; omega)
            have hot := hfk.get hot (by simp only [List.mem_cons, List.not_mem_nil, or_false]; omega)
            have hra := hfk.get hra (by simp only [List.mem_cons, List.not_mem_nil, or_false]; omega)
            have hf_subject := hfk.get hf_subject (by decide)
            have hco := hfk.get hco (by decide)
            have hre := hfk.get hre (by decide)
            have hho := hfk.get hho (by decide)
            have pmkB_f_marks := mkB.fr hfk pmkB_f_marks (by decide) (by decide) (by decide) (by decide)
            have hfr := hfr.tr hfk (by decide)
            have hq45 := hfk.1
            have hf_pieces := hNf_pieces
            have hb236 := hNb236
            change ab_W _ _ _ G33 157 [some (vR w_), none, some (vR q), some (vz (SP216 1)), some (vz (ct_ + 1)), some (vz tu), some (vz 1)] [vz 1] _
            refine ab_pop d_PW_split_157 rfl ?_
            have hz60 : zT n237 4004 ≤ 12012 := zT_le (c := 4004) (by omega) rfl
            refine ab_aload_n d_PW_split_158 rfl ?_
            refine ab_getf (fs := [vR f_ready, vR f_tape, vR f_reader, vR f_programs, vR f_subject, vR f_spans, vR f_threads, vR f_marks, vR f_oneMind, vR f_states, vR f_latest, vR f_matches, vR f_pieces, vR f_template, vR f_result, vR f_spare, vz cmp, vz ovs]) f_PW_79 d_PW_split_159 hw_.2.2 rfl ?_
            refine ab_aload_n d_PW_split_162 rfl ?_
            refine ab_getf (fs := [vR f_ready, vR f_tape, vR f_reader, vR f_programs, vR f_subject, vR f_spans, vR f_threads, vR f_marks, vR f_oneMind, vR f_states, vR f_latest, vR f_matches, vR f_pieces, vR f_template, vR f_result, vR f_spare, vz cmp, vz ovs]) f_PW_42 d_PW_split_163 hw_.2.2 rfl ?_
            refine zz_iconst d_PW_split_166 ?_
            refine zz_iald d_PW_split_167 hf_spans (by omega) ?_
            refine ab_callV (d' := d - 1) (as := [vz (SP216 1)]) (st := []) (r := _) (z_RW_add (o := o35) (r := f_pieces) (b := b236) (lr := 73) (lb := 74) (n := n237) (lim := 4004) (sz := (sz_a + 1)) (f := f238) (x := (SP216 1)) hf_pieces hb236 (by omega) (by have h18 : ab_n0 = 18 := rfl; omega) (by omega) (by omega) (by omega)) (fun oc G2 h => by rcases h with ⟨h, _⟩ | ⟨_, _, _, _, h, _⟩ <;> exact ⟨_, h⟩) (by omega) m_RW_add ml_PW_197 im_RW_add se_RW_add c_RW hf_pieces.2.2 (Nat.le_of_ble_eq_true rfl) d_PW_split_168 rfl ?_
            intro v G61 hq
            rcases hq with ⟨hv, hGe, hq62⟩ | ⟨o63, b264, n265, f266, hv, hfk, hNf_pieces, hNb264, hq67, hq68, hq69, hq70, hq71, hq72⟩
            · cases hv
              rw [hGe]
              change ab_W _ _ _ G33 171 [some (vR w_), none, some (vR q), some (vz (SP216 1)), some (vz (ct_ + 1)), some (vz tu), some (vz 1)] [vz 0] _
              refine ab_pop d_PW_split_171 rfl ?_
              refine zz_iinc d_PW_split_172 rfl (Nat.le_of_ble_eq_true rfl) (Nat.le_of_ble_eq_true rfl) rfl ?_
              change ab_W _ _ _ G33 175 [some (vR w_), none, some (vR q), some (vz (SP216 1)), some (vz (ct_ + 1)), some (vz (tu + 1)), some (vz 1)] [] _
              refine ab_goto (tgt := 62) d_PW_split_175 (by decide) ?_
              refine ab_less (L' := [some (vR w_), none, some (vR q), some (vz (SP216 1)), some (vz (ct_ + 1)), some (vz (tu + 1)), none]) (fun i v h => by rcases i with _ | _ | _ | _ | _ | _ | _ | i <;> first | exact h | (simp at h)) ?_
              exact ih (ns := ns215) (SP := SP216) (it_a := b236) (sz_a := (sz_a + 1)) (mr_a := n237) (F_a := f238) (bf := (SP216 1)) (tu := (tu + 1)) (ct_ := (ct_ + 1)) (stm := sm217) (un := un218) hw_ hf_spans hq hki hne hot hra hf_subject hco hre hho hf_pieces hb236 pmkB_f_marks (by omega) hq20 (by omega) (by omega) (by omega) (by omega) (by omega) hfr (by omega) hk0
            · cases hv
              have hw_ := hfk.get hw_ (by decide)
              have hf_spans := hfk.get hf_spans (by decide)
              have hq := hfk.get hq (by simp only [List.mem_cons, List.not_mem_nil, or_false]; omega)
              have hki := hfk.get hki (by simp only [List.mem_cons, List.not_mem_nil, or_false]; omega)
              have hne := hfk.get hne (by simp only [List.mem_cons, List.not_mem_nil, or_false]; omega)
              have hot := hfk.get hot (by simp only [List.mem_cons, List.not_mem_nil, or_false]; omega)
              have hra := hfk.get hra (by simp only [List.mem_cons, List.not_mem_nil, or_false]; omega)
              have hf_subject := hfk.get hf_subject (by decide)
              have hco := hfk.get hco (by decide)
              have hre := hfk.get hre (by decide)
              have hho := hfk.get hho (by decide)
              have pmkB_f_marks := mkB.fr hfk pmkB_f_marks (by decide) (by decide) (by decide) (by decide)
              have hfr := hfr.tr hfk (by decide)
              have hq73 := hfk.1
              have hf_pieces := hNf_pieces
              have hb264 := hNb264
              change ab_W _ _ _ G61 171 [some (vR w_), none, some (vR q), some (vz (SP216 1)), some (vz (ct_ + 1)), some (vz tu), some (vz 1)] [vz 1] _
              refine ab_pop d_PW_split_171 rfl ?_
              refine zz_iinc d_PW_split_172 rfl (Nat.le_of_ble_eq_true rfl) (Nat.le_of_ble_eq_true rfl) rfl ?_
              change ab_W _ _ _ G61 175 [some (vR w_), none, some (vR q), some (vz (SP216 1)), some (vz (ct_ + 1)), some (vz (tu + 1)), some (vz 1)] [] _
              refine ab_goto (tgt := 62) d_PW_split_175 (by decide) ?_
              refine ab_less (L' := [some (vR w_), none, some (vR q), some (vz (SP216 1)), some (vz (ct_ + 1)), some (vz (tu + 1)), none]) (fun i v h => by rcases i with _ | _ | _ | _ | _ | _ | _ | i <;> first | exact h | (simp at h)) ?_
              exact ih (ns := ns215) (SP := SP216) (it_a := b264) (sz_a := ((sz_a + 1) + 1)) (mr_a := n265) (F_a := f266) (bf := (SP216 1)) (tu := (tu + 1)) (ct_ := (ct_ + 1)) (stm := sm217) (un := un218) hw_ hf_spans hq hki hne hot hra hf_subject hco hre hho hf_pieces hb264 pmkB_f_marks (by omega) hq20 (by omega) (by omega) (by omega) (by omega) (by omega) hfr (by omega) hk0
        · refine ab_aload_n d_PW_split_107 rfl ?_
          refine ab_getf (fs := [vR f_ready, vR f_tape, vR f_reader, vR f_programs, vR f_subject, vR f_spans, vR f_threads, vR f_marks, vR f_oneMind, vR f_states, vR f_latest, vR f_matches, vR f_pieces, vR f_template, vR f_result, vR f_spare, vz cmp, vz ovs]) f_PW_42 d_PW_split_108 hw_.2.2 rfl ?_
          refine zz_iconst d_PW_split_111 ?_
          refine zz_iald d_PW_split_112 hf_spans (by omega) ?_
          refine zz_if_le (tgt := 136) d_PW_split_113 (by decide) (by omega) (fun c74 => ?_) (fun c74 => ?_)
          · refine zz_iconst d_PW_split_136 ?_
            refine ab_istore d_PW_split_137 (Nat.le_of_ble_eq_true rfl) (Nat.le_of_ble_eq_true rfl) rfl ?_
            change ab_W _ _ _ G4 139 [some (vR w_), none, some (vR q), some (vz (SP216 1)), some (vz (ct_ + 1)), some (vz tu), some (vz 0)] [] _
            refine ab_iload d_PW_split_139 rfl ?_
            refine zz_if_eq (tgt := 172) d_PW_split_141 (by decide) (by decide) (fun c75 => ?_) (fun c75 => absurd c75 (by decide))
            refine zz_iinc d_PW_split_172 rfl (Nat.le_of_ble_eq_true rfl) (Nat.le_of_ble_eq_true rfl) rfl ?_
            change ab_W _ _ _ G4 175 [some (vR w_), none, some (vR q), some (vz (SP216 1)), some (vz (ct_ + 1)), some (vz (tu + 1)), some (vz 0)] [] _
            refine ab_goto (tgt := 62) d_PW_split_175 (by decide) ?_
            refine ab_less (L' := [some (vR w_), none, some (vR q), some (vz (SP216 1)), some (vz (ct_ + 1)), some (vz (tu + 1)), none]) (fun i v h => by rcases i with _ | _ | _ | _ | _ | _ | _ | i <;> first | exact h | (simp at h)) ?_
            exact ih (ns := ns215) (SP := SP216) (it_a := it_a) (sz_a := sz_a) (mr_a := mr_a) (F_a := F_a) (bf := (SP216 1)) (tu := (tu + 1)) (ct_ := (ct_ + 1)) (stm := sm217) (un := un218) hw_ hf_spans hq hki hne hot hra hf_subject hco hre hho hf_pieces hit_a pmkB_f_marks (by omega) hq20 (by omega) (by omega) (by omega) (by omega) (by omega) hfr (by omega) hk0
          · refine ab_aload_n d_PW_split_116 rfl ?_
            refine ab_getf (fs := [vR f_ready, vR f_tape, vR f_reader, vR f_programs, vR f_subject, vR f_spans, vR f_threads, vR f_marks, vR f_oneMind, vR f_states, vR f_latest, vR f_matches, vR f_pieces, vR f_template, vR f_result, vR f_spare, vz cmp, vz ovs]) f_PW_42 d_PW_split_117 hw_.2.2 rfl ?_
            refine zz_iconst d_PW_split_120 ?_
            refine zz_iald d_PW_split_121 hf_spans (by omega) ?_
            refine ab_aload_n d_PW_split_122 rfl ?_
            refine ab_getf (fs := [vR f_ready, vR f_tape, vR f_reader, vR f_programs, vR f_subject, vR f_spans, vR f_threads, vR f_marks, vR f_oneMind, vR f_states, vR f_latest, vR f_matches, vR f_pieces, vR f_template, vR f_result, vR f_spare, vz cmp, vz ovs]) f_PW_38 d_PW_split_123 hw_.2.2 rfl ?_
            refine ab_getf (fs := [vR by_, vR co, vR re, vR ho, vz n]) f_PW_164 d_PW_split_126 hf_subject.2.2 rfl ?_
            refine zz_icmp_ge (tgt := 136) d_PW_split_129 (by decide) (by omega) (by omega) (fun c76 => ?_) (fun c76 => ?_)
            · refine zz_iconst d_PW_split_136 ?_
              refine ab_istore d_PW_split_137 (Nat.le_of_ble_eq_true rfl) (Nat.le_of_ble_eq_true rfl) rfl ?_
              change ab_W _ _ _ G4 139 [some (vR w_), none, some (vR q), some (vz (SP216 1)), some (vz (ct_ + 1)), some (vz tu), some (vz 0)] [] _
              refine ab_iload d_PW_split_139 rfl ?_
              refine zz_if_eq (tgt := 172) d_PW_split_141 (by decide) (by decide) (fun c77 => ?_) (fun c77 => absurd c77 (by decide))
              refine zz_iinc d_PW_split_172 rfl (Nat.le_of_ble_eq_true rfl) (Nat.le_of_ble_eq_true rfl) rfl ?_
              change ab_W _ _ _ G4 175 [some (vR w_), none, some (vR q), some (vz (SP216 1)), some (vz (ct_ + 1)), some (vz (tu + 1)), some (vz 0)] [] _
              refine ab_goto (tgt := 62) d_PW_split_175 (by decide) ?_
              refine ab_less (L' := [some (vR w_), none, some (vR q), some (vz (SP216 1)), some (vz (ct_ + 1)), some (vz (tu + 1)), none]) (fun i v h => by rcases i with _ | _ | _ | _ | _ | _ | _ | i <;> first | exact h | (simp at h)) ?_
              exact ih (ns := ns215) (SP := SP216) (it_a := it_a) (sz_a := sz_a) (mr_a := mr_a) (F_a := F_a) (bf := (SP216 1)) (tu := (tu + 1)) (ct_ := (ct_ + 1)) (stm := sm217) (un := un218) hw_ hf_spans hq hki hne hot hra hf_subject hco hre hho hf_pieces hit_a pmkB_f_marks (by omega) hq20 (by omega) (by omega) (by omega) (by omega) (by omega) hfr (by omega) hk0
            · refine zz_iconst d_PW_split_132 ?_
              refine ab_goto (tgt := 137) d_PW_split_133 (by decide) ?_
              refine ab_istore d_PW_split_137 (Nat.le_of_ble_eq_true rfl) (Nat.le_of_ble_eq_true rfl) rfl ?_
              change ab_W _ _ _ G4 139 [some (vR w_), none, some (vR q), some (vz (SP216 1)), some (vz (ct_ + 1)), some (vz tu), some (vz 1)] [] _
              refine ab_iload d_PW_split_139 rfl ?_
              refine zz_if_eq (tgt := 172) d_PW_split_141 (by decide) (by decide) (fun c78 => absurd c78 (by decide)) (fun c78 => ?_)
              refine ab_aload_n d_PW_split_144 rfl ?_
              refine ab_getf (fs := [vR f_ready, vR f_tape, vR f_reader, vR f_programs, vR f_subject, vR f_spans, vR f_threads, vR f_marks, vR f_oneMind, vR f_states, vR f_latest, vR f_matches, vR f_pieces, vR f_template, vR f_result, vR f_spare, vz cmp, vz ovs]) f_PW_79 d_PW_split_145 hw_.2.2 rfl ?_
              refine ab_aload_n d_PW_split_148 rfl ?_
              refine ab_getf (fs := [vR f_ready, vR f_tape, vR f_reader, vR f_programs, vR f_subject, vR f_spans, vR f_threads, vR f_marks, vR f_oneMind, vR f_states, vR f_latest, vR f_matches, vR f_pieces, vR f_template, vR f_result, vR f_spare, vz cmp, vz ovs]) f_PW_42 d_PW_split_149 hw_.2.2 rfl ?_
              refine zz_iconst d_PW_split_152 ?_
              refine zz_iald d_PW_split_153 hf_spans (by omega) ?_
              refine ab_callV (d' := d - 1) (as := [vz (SP216 0)]) (st := []) (r := _) (z_RW_add (o := o14) (r := f_pieces) (b := it_a) (lr := 73) (lb := 74) (n := mr_a) (lim := 4004) (sz := sz_a) (f := F_a) (x := (SP216 0)) hf_pieces hit_a (by omega) (by have h18 : ab_n0 = 18 := rfl; omega) (by omega) (by omega) (by omega)) (fun oc G2 h => by rcases h with ⟨h, _⟩ | ⟨_, _, _, _, h, _⟩ <;> exact ⟨_, h⟩) (by omega) m_RW_add ml_PW_197 im_RW_add se_RW_add c_RW hf_pieces.2.2 (Nat.le_of_ble_eq_true rfl) d_PW_split_154 rfl ?_
              intro v G79 hq
              rcases hq with ⟨hv, hGe, hq80⟩ | ⟨o81, b282, n283, f284, hv, hfk, hNf_pieces, hNb282, hq85, hq86, hq87, hq88, hq89, hq90⟩
              · cases hv
                rw [hGe]
                change ab_W _ _ _ G4 157 [some (vR w_), none, some (vR q), some (vz (SP216 1)), some (vz (ct_ + 1)), some (vz tu), some (vz 1)] [vz 0] _
                refine ab_pop d_PW_split_157 rfl ?_
                have hz92 : zT mr_a 4004 ≤ 12012 := zT_le (c := 4004) (by omega) rfl
                refine ab_aload_n d_PW_split_158 rfl ?_
                refine ab_getf (fs := [vR f_ready, vR f_tape, vR f_reader, vR f_programs, vR f_subject, vR f_spans, vR f_threads, vR f_marks, vR f_oneMind, vR f_states, vR f_latest, vR f_matches, vR f_pieces, vR f_template, vR f_result, vR f_spare, vz cmp, vz ovs]) f_PW_79 d_PW_split_159 hw_.2.2 rfl ?_
                refine ab_aload_n d_PW_split_162 rfl ?_
                refine ab_getf (fs := [vR f_ready, vR f_tape, vR f_reader, vR f_programs, vR f_subject, vR f_spans, vR f_threads, vR f_marks, vR f_oneMind, vR f_states, vR f_latest, vR f_matches, vR f_pieces, vR f_template, vR f_result, vR f_spare, vz cmp, vz ovs]) f_PW_42 d_PW_split_163 hw_.2.2 rfl ?_
                refine zz_iconst d_PW_split_166 ?_
                refine zz_iald d_PW_split_167 hf_spans (by omega) ?_
                refine ab_callV (d' := d - 1) (as := [vz (SP216 1)]) (st := []) (r := _) (z_RW_add (o := o14) (r := f_pieces) (b := it_a) (lr := 73) (lb := 74) (n := mr_a) (lim := 4004) (sz := sz_a) (f := F_a) (x := (SP216 1)) hf_pieces hit_a (by omega) (by have h18 : ab_n0 = 18 := rfl; omega) (by omega) (by omega) (by omega)) (fun oc G2 h => by rcases h with ⟨h, _⟩ | ⟨_, _, _, _, h, _⟩ <;> exact ⟨_, h⟩) (by omega) m_RW_add ml_PW_197 im_RW_add se_RW_add c_RW hf_pieces.2.2 (Nat.le_of_ble_eq_true rfl) d_PW_split_168 rfl ?_
                intro v G93 hq
                rcases hq with ⟨hv, hGe, hq94⟩ | ⟨o95, b296, n297, f298, hv, hfk, hNf_pieces, hNb296, hq99, hq100, hq101, hq102, hq103, hq104⟩
                · cases hv
                  rw [hGe]
                  change ab_W _ _ _ G4 171 [some (vR w_), none, some (vR q), some (vz (SP216 1)), some (vz (ct_ + 1)), some (vz tu), some (vz 1)] [vz 0] _
                  refine ab_pop d_PW_split_171 rfl ?_
                  refine zz_iinc d_PW_split_172 rfl (Nat.le_of_ble_eq_true rfl) (Nat.le_of_ble_eq_true rfl) rfl ?_
                  change ab_W _ _ _ G4 175 [some (vR w_), none, some (vR q), some (vz (SP216 1)), some (vz (ct_ + 1)), some (vz (tu + 1)), some (vz 1)] [] _
                  refine ab_goto (tgt := 62) d_PW_split_175 (by decide) ?_
                  refine ab_less (L' := [some (vR w_), none, some (vR q), some (vz (SP216 1)), some (vz (ct_ + 1)), some (vz (tu + 1)), none]) (fun i v h => by rcases i with _ | _ | _ | _ | _ | _ | _ | i <;> first | exact h | (simp at h)) ?_
                  exact ih (ns := ns215) (SP := SP216) (it_a := it_a) (sz_a := sz_a) (mr_a := mr_a) (F_a := F_a) (bf := (SP216 1)) (tu := (tu + 1)) (ct_ := (ct_ + 1)) (stm := sm217) (un := un218) hw_ hf_spans hq hki hne hot hra hf_subject hco hre hho hf_pieces hit_a pmkB_f_marks (by omega) hq20 (by omega) (by omega) (by omega) (by omega) (by omega) hfr (by omega) hk0
                · cases hv
                  have hw_ := hfk.get hw_ (by decide)
                  have hf_spans := hfk.get hf_spans (by decide)
                  have hq := hfk.get hq (by simp only [List.mem_cons, List.not_mem_nil, or_false]; omega)
                  have hki := hfk.get hki (by simp only [List.mem_cons, List.not_mem_nil, or_false]; omega)
                  have hne := hfk.get hne (by simp only [List.mem_cons, List.not_mem_nil, or_false]; omega)
                  have hot := hfk.get hot (by simp only [List.mem_cons, List.not_mem_nil, or_false]; omega)
                  have hra := hfk.get hra (by simp only [List.mem_cons, List.not_mem_nil, or_false]; omega)
                  have hf_subject := hfk.get hf_subject (by decide)
                  have hco := hfk.get hco (by decide)
                  have hre := hfk.get hre (by decide)
                  have hho := hfk.get hho (by decide)
                  have pmkB_f_marks := mkB.fr hfk pmkB_f_marks (by decide) (by decide) (by decide) (by decide)
                  have hfr := hfr.tr hfk (by decide)
                  have hq105 := hfk.1
                  have hf_pieces := hNf_pieces
                  have hb296 := hNb296
                  change ab_W _ _ _ G93 171 [some (vR w_), none, some (vR q), some (vz (SP216 1)), some (vz (ct_ + 1)), some (vz tu), some (vz 1)] [vz 1] _
                  exfalso; omega
              · cases hv
                have hw_ := hfk.get hw_ (by decide)
                have hf_spans := hfk.get hf_spans (by decide)
                have hq := hfk.get hq (by simp only [List.mem_cons, List.not_mem_nil, or_false]; omega)
                have hki := hfk.get hki (by simp only [List.mem_cons, List.not_mem_nil, or_false]; omega)
                have hne := hfk.get hne (by simp only [List.mem_cons, List.not_mem_nil, or_false]; omega)
                have hot := hfk.get hot (by simp only [List.mem_cons, List.not_mem_nil, or_false]; omega)
                have hra := hfk.get hra (by simp only [List.mem_cons, List.not_mem_nil, or_false]; omega)
                have hf_subject := hfk.get hf_subject (by decide)
                have hco := hfk.get hco (by decide)
                have hre := hfk.get hre (by decide)
                have hho := hfk.get hho (by decide)
                have pmkB_f_marks := mkB.fr hfk pmkB_f_marks (by decide) (by decide) (by decide) (by decide)
                have hfr := hfr.tr hfk (by decide)
                have hq91 := hfk.1
                have hf_pieces := hNf_pieces
                have hb282 := hNb282
                change ab_W _ _ _ G79 157 [some (vR w_), none, some (vR q), some (vz (SP216 1)), some (vz (ct_ + 1)), some (vz tu), some (vz 1)] [vz 1] _
                refine ab_pop d_PW_split_157 rfl ?_
                have hz106 : zT n283 4004 ≤ 12012 := zT_le (c := 4004) (by omega) rfl
                refine ab_aload_n d_PW_split_158 rfl ?_
                refine ab_getf (fs := [vR f_ready, vR f_tape, vR f_reader, vR f_programs, vR f_subject, vR f_spans, vR f_threads, vR f_marks, vR f_oneMind, vR f_states, vR f_latest, vR f_matches, vR f_pieces, vR f_template, vR f_result, vR f_spare, vz cmp, vz ovs]) f_PW_79 d_PW_split_159 hw_.2.2 rfl ?_
                refine ab_aload_n d_PW_split_162 rfl ?_
                refine ab_getf (fs := [vR f_ready, vR f_tape, vR f_reader, vR f_programs, vR f_subject, vR f_spans, vR f_threads, vR f_marks, vR f_oneMind, vR f_states, vR f_latest, vR f_matches, vR f_pieces, vR f_template, vR f_result, vR f_spare, vz cmp, vz ovs]) f_PW_42 d_PW_split_163 hw_.2.2 rfl ?_
                refine zz_iconst d_PW_split_166 ?_
                refine zz_iald d_PW_split_167 hf_spans (by omega) ?_
                refine ab_callV (d' := d - 1) (as := [vz (SP216 1)]) (st := []) (r := _) (z_RW_add (o := o81) (r := f_pieces) (b := b282) (lr := 73) (lb := 74) (n := n283) (lim := 4004) (sz := (sz_a + 1)) (f := f284) (x := (SP216 1)) hf_pieces hb282 (by omega) (by have h18 : ab_n0 = 18 := rfl; omega) (by omega) (by omega) (by omega)) (fun oc G2 h => by rcases h with ⟨h, _⟩ | ⟨_, _, _, _, h, _⟩ <;> exact ⟨_, h⟩) (by omega) m_RW_add ml_PW_197 im_RW_add se_RW_add c_RW hf_pieces.2.2 (Nat.le_of_ble_eq_true rfl) d_PW_split_168 rfl ?_
                intro v G107 hq
                rcases hq with ⟨hv, hGe, hq108⟩ | ⟨o109, b2110, n2111, f2112, hv, hfk, hNf_pieces, hNb2110, hq113, hq114, hq115, hq116, hq117, hq118⟩
                · cases hv
                  rw [hGe]
                  change ab_W _ _ _ G79 171 [some (vR w_), none, some (vR q), some (vz (SP216 1)), some (vz (ct_ + 1)), some (vz tu), some (vz 1)] [vz 0] _
                  refine ab_pop d_PW_split_171 rfl ?_
                  refine zz_iinc d_PW_split_172 rfl (Nat.le_of_ble_eq_true rfl) (Nat.le_of_ble_eq_true rfl) rfl ?_
                  change ab_W _ _ _ G79 175 [some (vR w_), none, some (vR q), some (vz (SP216 1)), some (vz (ct_ + 1)), some (vz (tu + 1)), some (vz 1)] [] _
                  refine ab_goto (tgt := 62) d_PW_split_175 (by decide) ?_
                  refine ab_less (L' := [some (vR w_), none, some (vR q), some (vz (SP216 1)), some (vz (ct_ + 1)), some (vz (tu + 1)), none]) (fun i v h => by rcases i with _ | _ | _ | _ | _ | _ | _ | i <;> first | exact h | (simp at h)) ?_
                  exact ih (ns := ns215) (SP := SP216) (it_a := b282) (sz_a := (sz_a + 1)) (mr_a := n283) (F_a := f284) (bf := (SP216 1)) (tu := (tu + 1)) (ct_ := (ct_ + 1)) (stm := sm217) (un := un218) hw_ hf_spans hq hki hne hot hra hf_subject hco hre hho hf_pieces hb282 pmkB_f_marks (by omega) hq20 (by omega) (by omega) (by omega) (by omega) (by omega) hfr (by omega) hk0
                · cases hv
                  have hw_ := hfk.get hw_ (by decide)
                  have hf_spans := hfk.get hf_spans (by decide)
                  have hq := hfk.get hq (by simp only [List.mem_cons, List.not_mem_nil, or_false]; omega)
                  have hki := hfk.get hki (by simp only [List.mem_cons, List.not_mem_nil, or_false]; omega)
                  have hne := hfk.get hne (by simp only [List.mem_cons, List.not_mem_nil, or_false]; omega)
                  have hot := hfk.get hot (by simp only [List.mem_cons, List.not_mem_nil, or_false]; omega)
                  have hra := hfk.get hra (by simp only [List.mem_cons, List.not_mem_nil, or_false]; omega)
                  have hf_subject := hfk.get hf_subject (by decide)
                  have hco := hfk.get hco (by decide)
                  have hre := hfk.get hre (by decide)
                  have hho := hfk.get hho (by decide)
                  have pmkB_f_marks := mkB.fr hfk pmkB_f_marks (by decide) (by decide) (by decide) (by decide)
                  have hfr := hfr.tr hfk (by decide)
                  have hq119 := hfk.1
                  have hf_pieces := hNf_pieces
                  have hb2110 := hNb2110
                  change ab_W _ _ _ G107 171 [some (vR w_), none, some (vR q), some (vz (SP216 1)), some (vz (ct_ + 1)), some (vz tu), some (vz 1)] [vz 1] _
                  refine ab_pop d_PW_split_171 rfl ?_
                  refine zz_iinc d_PW_split_172 rfl (Nat.le_of_ble_eq_true rfl) (Nat.le_of_ble_eq_true rfl) rfl ?_
                  change ab_W _ _ _ G107 175 [some (vR w_), none, some (vR q), some (vz (SP216 1)), some (vz (ct_ + 1)), some (vz (tu + 1)), some (vz 1)] [] _
                  refine ab_goto (tgt := 62) d_PW_split_175 (by decide) ?_
                  refine ab_less (L' := [some (vR w_), none, some (vR q), some (vz (SP216 1)), some (vz (ct_ + 1)), some (vz (tu + 1)), none]) (fun i v h => by rcases i with _ | _ | _ | _ | _ | _ | _ | i <;> first | exact h | (simp at h)) ?_
                  exact ih (ns := ns215) (SP := SP216) (it_a := b2110) (sz_a := ((sz_a + 1) + 1)) (mr_a := n2111) (F_a := f2112) (bf := (SP216 1)) (tu := (tu + 1)) (ct_ := (ct_ + 1)) (stm := sm217) (un := un218) hw_ hf_spans hq hki hne hot hra hf_subject hco hre hho hf_pieces hb2110 pmkB_f_marks (by omega) hq20 (by omega) (by omega) (by omega) (by omega) (by omega) hfr (by omega) hk0
set_option maxRecDepth 100000 in
set_option maxHeartbeats 4000000 in
theorem z_PW_split {X : ab_X} {d : Nat} {o : Nat → Nat} {G : ab_G} {w_ : Nat} {f_ready : Nat} {f_tape : Nat} {f_reader : Nat} {f_programs : Nat} {f_subject : Nat} {f_spans : Nat} {f_threads : Nat} {f_marks : Nat} {f_oneMind : Nat} {f_states : Nat} {f_latest : Nat} {f_matches : Nat} {f_pieces : Nat} {f_template : Nat} {f_result : Nat} {f_spare : Nat} {cmp : Int} {ovs : Int} {PG : Nat → Option Nat} {NR : Nat → Nat} {cv : Int → Int} {on : Nat} {nm : Nat} {ns : Nat} {nt : Nat} {n : Int} {m : Nat} {SP : Int → Int} {it_a : Nat} {sz_a : Int} {mr_a : Nat} {F_a : Int → Int} {sl : Int} {k_ : Nat} (hw_ : cc o G w_ 18 (ab_ob 0 [vR f_ready, vR f_tape, vR f_reader, vR f_programs, vR f_subject, vR f_spans, vR f_threads, vR f_marks, vR f_oneMind, vR f_states, vR f_latest, vR f_matches, vR f_pieces, vR f_template, vR f_result, vR f_spare, vz cmp, vz ovs])) (hf_spans : cc o G f_spans 31 (za 20 SP)) (h17 : cc o G 17 17 (za 12 zFC)) (hf_programs : cc o G f_programs 81 (ab_rr 6 PG)) (hf_pieces : cc o G f_pieces 73 (ab_ob 7 [vz 4004, vR it_a, vz sz_a])) (hit_a : cc o G it_a 74 (za mr_a F_a)) (pthI_f_threads : thI o G f_threads 0) (pmkI_f_marks : mkI o G f_marks nm ns 0) (pomI_f_oneMind : omI o G f_oneMind on nt 0) (pstI_f_states : stI o G f_states cv cmp 0) (psuI_f_subject : suI o G f_subject n m) (ppgI_0 : pgI o G 0 PG NR cv cmp on) (n18 : ab_n0 = 18) (hkq : kq6 sl k_) (cr : -2147483648 ≤ sl ∧ sl ≤ 2147483647) (jsp : rgs SP 20 (-1) 2000) (crw_a : 0 ≤ sz_a ∧ sz_a ≤ ↑mr_a ∧ ↑mr_a ≤ (4004 : Int) ∧ 32 ≤ mr_a) (rc : 64 * G.length + 4600000 ≤ 64 * (ab_n0 + room_1.cells) + (64 * nm + 64 * stC ns + nt + onP on)) (rs : ab_slots G + 2360000 ≤ room_1.slots + (zT nm 52026 + stT ns + 2 * nt + onS on)) (hd : 16 ≤ d) : ab_F X d y_PW_split (.code y_PW_split b_PW_split 7 (some (.int))) [vR w_, vz sl] G (fun oc G2 => (∃ o2 : Nat → Nat, ∃ b : Nat, oc = .threw b ∧ fx o o2 [18, 31, 73, 74, 32, 33, 35, 36, 37, 38, 39, 40, 44, 45, 46, 47, 50, 51, 52, 53, 54, 55, 56, 57, 60, 61, 62, 63, 64, 65, 66, 67, 68] G G2 ∧ cc o2 G2 w_ 18 (ab_ob 0 [vR f_ready, vR f_tape, vR f_reader, vR f_programs, vR f_subject, vR f_spans, vR f_threads, vR f_marks, vR f_oneMind, vR f_states, vR f_latest, vR f_matches, vR f_pieces, vR f_template, vR f_result, vR f_spare, vz cmp, vz ovs]) ∧ cc o2 G2 f_spans 31 (za 20 SP) ∧ cc o2 G2 f_pieces 73 (ab_ob 7 [vz 4004, vR it_a, vz sz_a]) ∧ cc o2 G2 it_a 74 (za mr_a F_a) ∧ thI o2 G2 f_threads 0 ∧ mkI o2 G2 f_marks nm ns 0 ∧ omI o2 G2 f_oneMind on nt 0 ∧ stI o2 G2 f_states cv cmp 0 ∧ suI o2 G2 f_subject n m ∧ pgI o2 G2 0 PG NR cv cmp on ∧ (G2[b]? = some (.inr (13, []))) ∧ (G2.length = G.length + 1) ∧ (ab_slots G2 = ab_slots G + 6)) ∨ (∃ o2 : Nat → Nat, ∃ nm2 : Nat, ∃ ns2 : Nat, ∃ SP2 : Int → Int, ∃ r : Int, ∃ it2 : Nat, ∃ sz2 : Int, ∃ mr2 : Nat, ∃ F2 : Int → Int, oc = .returned (some (vz r)) ∧ fx o o2 [18, 31, 73, 74, 32, 33, 35, 36, 37, 38, 39, 40, 44, 45, 46, 47, 50, 51, 52, 53, 54, 55, 56, 57, 60, 61, 62, 63, 64, 65, 66, 67, 68] G G2 ∧ cc o2 G2 w_ 18 (ab_ob 0 [vR f_ready, vR f_tape, vR f_reader, vR f_programs, vR f_subject, vR f_spans, vR f_threads, vR f_marks, vR f_oneMind, vR f_states, vR f_latest, vR f_matches, vR f_pieces, vR f_template, vR f_result, vR f_spare, vz cmp, vz ovs]) ∧ cc o2 G2 f_spans 31 (za 20 SP2) ∧ cc o2 G2 f_pieces 73 (ab_ob 7 [vz 4004, vR it2, vz sz2]) ∧ cc o2 G2 it2 74 (za mr2 F2) ∧ thI o2 G2 f_threads 0 ∧ mkI o2 G2 f_marks nm2 ns2 0 ∧ omI o2 G2 f_oneMind on nt 0 ∧ stI o2 G2 f_states cv cmp 0 ∧ suI o2 G2 f_subject n m ∧ pgI o2 G2 0 PG NR cv cmp on ∧ (rgs SP2 20 (-1) 2000) ∧ (0 ≤ sz2 ∧ sz2 ≤ ↑mr2 ∧ ↑mr2 ≤ (4004 : Int) ∧ 32 ≤ mr2) ∧ (64 * G2.length + (64 * nm + 64 * stC ns + nt + onP on + 64 * mr_a) ≤ 64 * G.length + (64 * nm2 + 64 * stC ns2 + nt + onP on + 64 * mr2)) ∧ (ab_slots G2 + (zT nm 52026 + stT ns + 2 * nt + onS on + zT mr_a 4004) ≤ ab_slots G + (zT nm2 52026 + stT ns2 + 2 * nt + onS on + zT mr2 4004)))) := by
  refine ab_F_of (by decide +kernel) (Nat.le_of_ble_eq_true rfl) ?_
  obtain ⟨Q, hQ⟩ : ∃ z : Outcome → ab_G → Prop, z = (fun oc G2 => (∃ o2 : Nat → Nat, ∃ b : Nat, oc = .threw b ∧ fx o o2 [18, 31, 73, 74, 32, 33, 35, 36, 37, 38, 39, 40, 44, 45, 46, 47, 50, 51, 52, 53, 54, 55, 56, 57, 60, 61, 62, 63, 64, 65, 66, 67, 68] G G2 ∧ cc o2 G2 w_ 18 (ab_ob 0 [vR f_ready, vR f_tape, vR f_reader, vR f_programs, vR f_subject, vR f_spans, vR f_threads, vR f_marks, vR f_oneMind, vR f_states, vR f_latest, vR f_matches, vR f_pieces, vR f_template, vR f_result, vR f_spare, vz cmp, vz ovs]) ∧ cc o2 G2 f_spans 31 (za 20 SP) ∧ cc o2 G2 f_pieces 73 (ab_ob 7 [vz 4004, vR it_a, vz sz_a]) ∧ cc o2 G2 it_a 74 (za mr_a F_a) ∧ thI o2 G2 f_threads 0 ∧ mkI o2 G2 f_marks nm ns 0 ∧ omI o2 G2 f_oneMind on nt 0 ∧ stI o2 G2 f_states cv cmp 0 ∧ suI o2 G2 f_subject n m ∧ pgI o2 G2 0 PG NR cv cmp on ∧ (G2[b]? = some (.inr (13, []))) ∧ (G2.length = G.length + 1) ∧ (ab_slots G2 = ab_slots G + 6)) ∨ (∃ o2 : Nat → Nat, ∃ nm2 : Nat, ∃ ns2 : Nat, ∃ SP2 : Int → Int, ∃ r : Int, ∃ it2 : Nat, ∃ sz2 : Int, ∃ mr2 : Nat, ∃ F2 : Int → Int, oc = .returned (some (vz r)) ∧ fx o o2 [18, 31, 73, 74, 32, 33, 35, 36, 37, 38, 39, 40, 44, 45, 46, 47, 50, 51, 52, 53, 54, 55, 56, 57, 60, 61, 62, 63, 64, 65, 66, 67, 68] G G2 ∧ cc o2 G2 w_ 18 (ab_ob 0 [vR f_ready, vR f_tape, vR f_reader, vR f_programs, vR f_subject, vR f_spans, vR f_threads, vR f_marks, vR f_oneMind, vR f_states, vR f_latest, vR f_matches, vR f_pieces, vR f_template, vR f_result, vR f_spare, vz cmp, vz ovs]) ∧ cc o2 G2 f_spans 31 (za 20 SP2) ∧ cc o2 G2 f_pieces 73 (ab_ob 7 [vz 4004, vR it2, vz sz2]) ∧ cc o2 G2 it2 74 (za mr2 F2) ∧ thI o2 G2 f_threads 0 ∧ mkI o2 G2 f_marks nm2 ns2 0 ∧ omI o2 G2 f_oneMind on nt 0 ∧ stI o2 G2 f_states cv cmp 0 ∧ suI o2 G2 f_subject n m ∧ pgI o2 G2 0 PG NR cv cmp on ∧ (rgs SP2 20 (-1) 2000) ∧ (0 ≤ sz2 ∧ sz2 ≤ ↑mr2 ∧ ↑mr2 ≤ (4004 : Int) ∧ 32 ≤ mr2) ∧ (64 * G2.length + (64 * nm + 64 * stC ns + nt + onP on + 64 * mr_a) ≤ 64 * G.length + (64 * nm2 + 64 * stC ns2 + nt + onP on + 64 * mr2)) ∧ (ab_slots G2 + (zT nm 52026 + stT ns + 2 * nt + onS on + zT mr_a 4004) ≤ ab_slots G + (zT nm2 52026 + stT ns2 + 2 * nt + onS on + zT mr2 4004)))) := ⟨_, rfl⟩
  rw [← hQ]
  change ab_W X (ab_pl y_PW_split b_PW_split 7 (some (.int))) d G 0 [some (vR w_), some (vz sl), none, none, none, none, none] [] Q
  have hfr : fx o o [18, 31, 73, 74, 32, 33, 35, 36, 37, 38, 39, 40, 44, 45, 46, 47, 50, 51, 52, 53, 54, 55, 56, 57, 60, 61, 62, 63, 64, 65, 66, 67, 68] G G := fx.rf
  have hq1 := stT_le ns
  have hq2 := stC_le ns
  have hq3 := onP_le on
  have hq4 := onS_le on
  have hnt_ := pomI_f_oneMind.nt
  have hnm_ := pmkI_f_marks.b
  have hzt_ : zT nm 52026 ≤ 156078 := zT_le (c := 52026) (by omega) rfl
  refine ab_aload_n d_PW_split_0 rfl ?_
  refine ab_iload_n d_PW_split_1 rfl ?_
  refine ab_callV (d' := d - 1) (as := [vz sl]) (st := []) (r := _) (z_PW_programAt (o := o) (w_ := w_) (f_ready := f_ready) (f_tape := f_tape) (f_reader := f_reader) (f_programs := f_programs) (f_subject := f_subject) (f_spans := f_spans) (f_threads := f_threads) (f_marks := f_marks) (f_oneMind := f_oneMind) (f_states := f_states) (f_latest := f_latest) (f_matches := f_matches) (f_pieces := f_pieces) (f_template := f_template) (f_result := f_result) (f_spare := f_spare) (cmp := cmp) (ovs := ovs) (PG := PG) (k := sl) hw_ hf_programs (by omega)) (fun oc G2 h => by rcases h with ⟨h, _⟩ | ⟨_, h, _⟩ <;> exact ⟨_, h⟩) (by omega) m_PW_programAt ml_PW_148 im_PW_programAt se_PW_programAt c_PW hw_.2.2 (Nat.le_of_ble_eq_true rfl) d_PW_split_2 rfl ?_
  intro v G5 hq
  rcases hq with ⟨hv, hGe⟩ | ⟨b6, hv, hGe, hq7, hq8⟩
  · cases hv
    rw [hGe]
    change ab_W _ _ _ G 5 [some (vR w_), some (vz sl), none, none, none, none, none] [vN] _
    refine ab_astore_nN d_PW_split_5 (Nat.le_of_ble_eq_true rfl) (Nat.le_of_ble_eq_true rfl) rfl ?_
    change ab_W _ _ _ G 6 [some (vR w_), some (vz sl), some (vN), none, none, none, none] [] _
    refine ab_aload_nN d_PW_split_6 rfl ?_
    refine ab_ifnonnullN d_PW_split_7 ?_
    refine ab_throw (tx := "no pattern there") (by decide) (fun c h => h) cl_PW_109 inst_IA ini_IA tw_PW_113 d_PW_split_10 d_PW_split_13 d_PW_split_14 d_PW_split_16 d_PW_split_19 (by omega) (by omega) (by omega) ?_
    obtain ⟨G9, eG9⟩ : ∃ z : ab_G, z = G ++ [.inr (13, [])] := ⟨_, rfl⟩
    obtain ⟨o10, eo10⟩ : ∃ z : Nat → Nat, z = ol o G.length 99 := ⟨_, rfl⟩
    obtain ⟨a11, ea11⟩ : ∃ z : Nat, z = G.length := ⟨_, rfl⟩
    have hq12 := hit_a.n0 (by first | decide | omega)
    have ne_a11_w_ : nq a11 w_ := by have hlt := hw_.lt; unfold nq; omega
    have ne_a11_f_spans : nq a11 f_spans := by have hlt := hf_spans.lt; unfold nq; omega
    have ne_a11_17 : nq a11 17 := by have hlt := h17.lt; unfold nq; omega
    have ne_a11_f_programs : nq a11 f_programs := by have hlt := hf_programs.lt; unfold nq; omega
    have ne_a11_f_pieces : nq a11 f_pieces := by have hlt := hf_pieces.lt; unfold nq; omega
    have ne_a11_it_a : nq a11 it_a := by have hlt := hit_a.lt; unfold nq; omega
    have hw_ := hw_.akeep (k := 99) eG9
    rw [← eo10] at hw_
    have hf_spans := hf_spans.akeep (k := 99) eG9
    rw [← eo10] at hf_spans
    have h17 := h17.akeep (k := 99) eG9
    rw [← eo10] at h17
    have hf_programs := hf_programs.akeep (k := 99) eG9
    rw [← eo10] at hf_programs
    have hf_pieces := hf_pieces.akeep (k := 99) eG9
    rw [← eo10] at hf_pieces
    have hit_a := hit_a.akeep (k := 99) eG9
    rw [← eo10] at hit_a
    have hst := (fx.rf (o := o) (S := []) (G := G)).ap (k := 99) eG9
    rw [← eo10] at hst
    have pthI_f_threads := thI.fr hst pthI_f_threads (by decide) (by decide) (by decide) (by decide) (by decide) (by decide) (by decide) (by decide)
    have pmkI_f_marks := mkI.fr hst pmkI_f_marks (by decide) (by decide) (by decide) (by decide)
    have pomI_f_oneMind := omI.fr hst pomI_f_oneMind (by decide) (by decide) (by decide) (by decide) (by decide) (by decide) (by decide) (by decide)
    have pstI_f_states := stI.fr hst pstI_f_states (by decide) (by decide) (by decide) (by decide) (by decide) (by decide) (by decide) (by decide) (by decide)
    have psuI_f_subject := suI.fr hst psuI_f_subject (by decide) (by decide) (by decide) (by decide) (by decide)
    have ppgI_0 := pgI.fr hst ppgI_0  (by simp)
    have ha11 := cc.anew (o := o) 99 eG9 hq12
    rw [← eo10, ← ea11] at ha11
    have hfr := hfr.ap (k := 99) eG9
    rw [← eo10] at hfr
    have hq13 := z_alen eG9
    have hq14 : ab_slots G9 = ab_slots G + 6 := z_asl eG9 hq12
    rw [← ea11, ← eG9]
    rw [hQ]; exact (Or.inl ⟨_, _, rfl, hfr, hw_, hf_spans, hf_pieces, hit_a, pthI_f_threads, pmkI_f_marks, pomI_f_oneMind, pstI_f_states, psuI_f_subject, ppgI_0, (by exact ha11.2.2), (by omega), (by omega)⟩)
  · cases hv
    rw [hGe]
    change ab_W _ _ _ G 5 [some (vR w_), some (vz sl), none, none, none, none, none] [vR b6] _
    refine ab_astore_n d_PW_split_5 (Nat.le_of_ble_eq_true rfl) (Nat.le_of_ble_eq_true rfl) rfl ?_
    change ab_W _ _ _ G 6 [some (vR w_), some (vz sl), some (vR b6), none, none, none, none] [] _
    refine ab_aload_n d_PW_split_6 rfl ?_
    refine ab_ifnonnull (tgt := 20) d_PW_split_7 (by decide) ?_
    have hk_ := hkq.2 (by omega) (by omega)
    rw [← hk_] at hq7
    have hk6_ : k_ < 6 := by omega
    obtain ⟨⟨mi_, sz_, ppgB_b6⟩, ppgX_0⟩ := ppgI_0.opn hk6_ hq7
    obtain ⟨ki_g, ne_g, ot_g, cnt_g, fi_g, la_g, ra_g, ru_g, gr_g, wi_g, fl_g, ve_g, na_g, nl_g, K_g, N_g, O_g, RR_g, NA_g, NL_g, hb6, hki_g, hne_g, hot_g, hra_g, hna_g, hnl_g, cq_g, hpu_g, hp_g, hr_g, hch_g, cru_g, ck9_g, cfi_g, cgr_g, cfl_g, hpo_g, hmi_g, hvc_g, cve_g, jnl_g, csz_g⟩ := ppgB_b6
    obtain ⟨by_, co, re, ho, f, C, Rs, H, mc, hf_subject, hby_, hco, hre, hho, csu, hsu⟩ := psuI_f_subject
    refine ab_aload_n d_PW_split_20 rfl ?_
    refine ab_getf (fs := [vR f_ready, vR f_tape, vR f_reader, vR f_programs, vR f_subject, vR f_spans, vR f_threads, vR f_marks, vR f_oneMind, vR f_states, vR f_latest, vR f_matches, vR f_pieces, vR f_template, vR f_result, vR f_spare, vz cmp, vz ovs]) f_PW_79 d_PW_split_21 hw_.2.2 rfl ?_
    refine ab_callV (d' := d - 1) (as := []) (st := []) (r := _) (z_RW_clear (o := o) (r := f_pieces) (b := it_a) (lr := 73) (lim := 4004) (sz := sz_a) hf_pieces (by have h18 : ab_n0 = 18 := rfl; omega)) (fun oc G2 h => by rcases h with ⟨h, _⟩ <;> exact ⟨_, h⟩) (by omega) m_RW_clear ml_PW_120 im_RW_clear se_RW_clear c_RW hf_pieces.2.2 (Nat.le_of_ble_eq_true rfl) d_PW_split_24 rfl ?_
    intro v G15 hq
    rcases hq with ⟨hv, hfk, hlk, hsk, hNf_pieces⟩
    cases hv
    have hw_ := hfk.get hw_ (by decide)
    have hf_spans := hfk.get hf_spans (by decide)
    have h17 := hfk.get h17 (by decide)
    have hf_programs := hfk.get hf_programs (by decide)
    have hit_a := hfk.get hit_a (by decide)
    have hb6 := hfk.get hb6 (by simp only [List.mem_cons, List.not_mem_nil, or_false]; omega)
    have hki_g := hfk.get hki_g (by simp only [List.mem_cons, List.not_mem_nil, or_false]; omega)
    have hne_g := hfk.get hne_g (by simp only [List.mem_cons, List.not_mem_nil, or_false]; omega)
    have hot_g := hfk.get hot_g (by simp only [List.mem_cons, List.not_mem_nil, or_false]; omega)
    have hra_g := hfk.get hra_g (by simp only [List.mem_cons, List.not_mem_nil, or_false]; omega)
    have hna_g := hfk.get hna_g (by simp only [List.mem_cons, List.not_mem_nil, or_false]; omega)
    have hnl_g := hfk.get hnl_g (by simp only [List.mem_cons, List.not_mem_nil, or_false]; omega)
    have hf_subject := hfk.get hf_subject (by decide)
    have hby_ := hfk.get hby_ (by decide)
    have hco := hfk.get hco (by decide)
    have hre := hfk.get hre (by decide)
    have hho := hfk.get hho (by decide)
    have pthI_f_threads := thI.fr hfk pthI_f_threads (by decide) (by decide) (by decide) (by decide) (by decide) (by decide) (by decide) (by decide)
    have pmkI_f_marks := mkI.fr hfk pmkI_f_marks (by decide) (by decide) (by decide) (by decide)
    have pomI_f_oneMind := omI.fr hfk pomI_f_oneMind (by decide) (by decide) (by decide) (by decide) (by decide) (by decide) (by decide) (by decide)
    have pstI_f_states := stI.fr hfk pstI_f_states (by decide) (by decide) (by decide) (by decide) (by decide) (by decide) (by decide) (by decide) (by decide)
    have ppgX_0 := pgX.fr hfk ppgX_0 (fun xx hx => Or.inl ((show ∀ y ∈ ([73] : List Nat), y < 100 by decide) xx hx))
    have hfr := hfr.tr hfk (by decide)
    have hq16 := hlk
    have hq17 := hsk
    have hf_pieces := hNf_pieces
    change ab_W _ _ _ G15 27 [some (vR w_), some (vz sl), some (vR b6), none, none, none, none] [] _
    refine ab_aload_n d_PW_split_27 rfl ?_
    refine ab_getf (fs := [vR f_ready, vR f_tape, vR f_reader, vR f_programs, vR f_subject, vR f_spans, vR f_threads, vR f_marks, vR f_oneMind, vR f_states, vR f_latest, vR f_matches, vR f_pieces, vR f_template, vR f_result, vR f_spare, vz cmp, vz ovs]) f_PW_79 d_PW_split_28 hw_.2.2 rfl ?_
    refine zz_iconst d_PW_split_31 ?_
    refine ab_callV (d' := d - 1) (as := [vz 0]) (st := []) (r := _) (z_RW_add (o := o) (r := f_pieces) (b := it_a) (lr := 73) (lb := 74) (n := mr_a) (lim := 4004) (sz := 0) (f := F_a) (x := 0) hf_pieces hit_a (by omega) (by have h18 : ab_n0 = 18 := rfl; omega) (by omega) (by omega) (by omega)) (fun oc G2 h => by rcases h with ⟨h, _⟩ | ⟨_, _, _, _, h, _⟩ <;> exact ⟨_, h⟩) (by omega) m_RW_add ml_PW_197 im_RW_add se_RW_add c_RW hf_pieces.2.2 (Nat.le_of_ble_eq_true rfl) d_PW_split_32 rfl ?_
    intro v G18 hq
    rcases hq with ⟨hv, hGe, hq19⟩ | ⟨o20, b221, n222, f223, hv, hfk, hNf_pieces, hNb221, hq24, hq25, hq26, hq27, hq28, hq29⟩
    · cases hv
      rw [hGe]
      change ab_W _ _ _ G15 35 [some (vR w_), some (vz sl), some (vR b6), none, none, none, none] [vz 0] _
      exfalso; omega
    · cases hv
      have hw_ := hfk.get hw_ (by decide)
      have hf_spans := hfk.get hf_spans (by decide)
      have h17 := hfk.get h17 (by decide)
      have hf_programs := hfk.get hf_programs (by decide)
      have hb6 := hfk.get hb6 (by simp only [List.mem_cons, List.not_mem_nil, or_false]; omega)
      have hki_g := hfk.get hki_g (by simp only [List.mem_cons, List.not_mem_nil, or_false]; omega)
      have hne_g := hfk.get hne_g (by simp only [List.mem_cons, List.not_mem_nil, or_false]; omega)
      have hot_g := hfk.get hot_g (by simp only [List.mem_cons, List.not_mem_nil, or_false]; omega)
      have hra_g := hfk.get hra_g (by simp only [List.mem_cons, List.not_mem_nil, or_false]; omega)
      have hna_g := hfk.get hna_g (by simp only [List.mem_cons, List.not_mem_nil, or_false]; omega)
      have hnl_g := hfk.get hnl_g (by simp only [List.mem_cons, List.not_mem_nil, or_false]; omega)
      have hf_subject := hfk.get hf_subject (by decide)
      have hby_ := hfk.get hby_ (by decide)
      have hco := hfk.get hco (by decide)
      have hre := hfk.get hre (by decide)
      have hho := hfk.get hho (by decide)
      have pthI_f_threads := thI.fr hfk pthI_f_threads (by decide) (by decide) (by decide) (by decide) (by decide) (by decide) (by decide) (by decide)
      have pmkI_f_marks := mkI.fr hfk pmkI_f_marks (by decide) (by decide) (by decide) (by decide)
      have pomI_f_oneMind := omI.fr hfk pomI_f_oneMind (by decide) (by decide) (by decide) (by decide) (by decide) (by decide) (by decide) (by decide)
      have pstI_f_states := stI.fr hfk pstI_f_states (by decide) (by decide) (by decide) (by decide) (by decide) (by decide) (by decide) (by decide) (by decide)
      have ppgX_0 := pgX.fr hfk ppgX_0 (fun xx hx => Or.inl ((show ∀ y ∈ ([73, 74] : List Nat), y < 100 by decide) xx hx))
      have hfr := hfr.tr hfk (by decide)
      have hq30 := hfk.1
      have hf_pieces := hNf_pieces
      have hb221 := hNb221
      change ab_W _ _ _ G18 35 [some (vR w_), some (vz sl), some (vR b6), none, none, none, none] [vz 1] _
      refine ab_pop d_PW_split_35 rfl ?_
      have hz31 : zT n222 4004 ≤ 12012 := zT_le (c := 4004) (by omega) rfl
      refine zz_iconst d_PW_split_36 ?_
      refine ab_istore_n d_PW_split_37 (Nat.le_of_ble_eq_true rfl) (Nat.le_of_ble_eq_true rfl) rfl ?_
      change ab_W _ _ _ G18 38 [some (vR w_), some (vz sl), some (vR b6), some (vz (-1)), none, none, none] [] _
      refine zz_iconst d_PW_split_38 ?_
      refine ab_istore d_PW_split_39 (Nat.le_of_ble_eq_true rfl) (Nat.le_of_ble_eq_true rfl) rfl ?_
      change ab_W _ _ _ G18 41 [some (vR w_), some (vz sl), some (vR b6), some (vz (-1)), some (vz 0), none, none] [] _
      refine ab_aload_n d_PW_split_41 rfl ?_
      refine ab_getf (fs := [vR f_ready, vR f_tape, vR f_reader, vR f_programs, vR f_subject, vR f_spans, vR f_threads, vR f_marks, vR f_oneMind, vR f_states, vR f_latest, vR f_matches, vR f_pieces, vR f_template, vR f_result, vR f_spare, vz cmp, vz ovs]) f_PW_55 d_PW_split_42 hw_.2.2 rfl ?_
      refine ab_aload_n d_PW_split_45 rfl ?_
      refine ab_aload_n d_PW_split_46 rfl ?_
      refine ab_getf (fs := [vR f_ready, vR f_tape, vR f_reader, vR f_programs, vR f_subject, vR f_spans, vR f_threads, vR f_marks, vR f_oneMind, vR f_states, vR f_latest, vR f_matches, vR f_pieces, vR f_template, vR f_result, vR f_spare, vz cmp, vz ovs]) f_PW_38 d_PW_split_47 hw_.2.2 rfl ?_
      refine zz_iconst d_PW_split_50 ?_
      refine zz_iconst d_PW_split_51 ?_
      refine ab_aload_n d_PW_split_52 rfl ?_
      refine ab_getf (fs := [vR f_ready, vR f_tape, vR f_reader, vR f_programs, vR f_subject, vR f_spans, vR f_threads, vR f_marks, vR f_oneMind, vR f_states, vR f_latest, vR f_matches, vR f_pieces, vR f_template, vR f_result, vR f_spare, vz cmp, vz ovs]) f_PW_42 d_PW_split_53 hw_.2.2 rfl ?_
      obtain ⟨wk_k, mk_k, stk_k, w_k, df_k, dp_k, fo_k, fy_k, hw_k, WK_k, M_k, SK_k, sp0_k, q0_k, s0_k, hf_marks, hwk_k, hmk_k, hstk_k, cn_k, hst_k, cfo_k, cst0_k⟩ := pmkI_f_marks
      refine ab_callV (d' := d - 1) (as := [vR b6, vR f_subject, vz 0, vz 0, vR f_spans]) (st := []) (r := _) (z_MK_begin (o := o20) (q := b6) (lq := (100 + 10 * k_)) (ki := ki_g) (ne := ne_g) (ot := ot_g) (cnt := cnt_g) (fi := fi_g) (la := la_g) (ra := ra_g) (ru := ru_g) (gr := gr_g) (wi := wi_g) (sz := sz_) (fl := fl_g) (ve := ve_g) (mi := mi_) (na := na_g) (nl := nl_g) (s := f_subject) (by_ := by_) (co := co) (re := re) (ho := ho) (n := n) (a := f_marks) (sp := f_spans) (wk := wk_k) (mk := mk_k) (stk := stk_k) (dp := dp_k) (fo := fo_k) (hw := 0) (stp := 0) (M := M_k) (nm := nm) (q0 := q0_k) (s0 := s0_k) (sp0 := sp0_k) (from_ := 0) (hw0 := hw_k) (fy0 := fy_k) (w0 := w_k) (df0 := df_k) hf_marks hmk_k hb6 hf_subject (by omega) (by omega) (by omega) (by omega) (by omega) (by omega) (by omega)) (fun oc G2 h => by rcases h with ⟨_, _, _, _, _, _, h, _⟩ <;> exact ⟨_, h⟩) (by omega) m_MK_begin ml_PW_189 im_MK_begin se_MK_begin c_MK hf_marks.2.2 (Nat.le_of_ble_eq_true rfl) d_PW_split_56 rfl ?_
      intro v G32 hq
      rcases hq with ⟨o33, w234, fy235, mk236, nm237, M238, hv, hfk, hNf_marks, hNmk236, hq39, hq40, hq41, hq42, hq43, hq44, hq45⟩
      cases hv
      have hw_ := hfk.get hw_ (by decide)
      have hf_spans := hfk.get hf_spans (by decide)
      have h17 := hfk.get h17 (by decide)
      have hf_programs := hfk.get hf_programs (by decide)
      have hf_pieces := hfk.get hf_pieces (by decide)
      have hb6 := hfk.get hb6 (by simp only [List.mem_cons, List.not_mem_nil, or_false]; omega)
      have hki_g := hfk.get hki_g (by simp only [List.mem_cons, List.not_mem_nil, or_false]; omega)
      have hne_g := hfk.get hne_g (by simp only [List.mem_cons, List.not_mem_nil, or_false]; omega)
      have hot_g := hfk.get hot_g (by simp only [List.mem_cons, List.not_mem_nil, or_false]; omega)
      have hra_g := hfk.get hra_g (by simp only [List.mem_cons, List.not_mem_nil, or_false]; omega)
      have hna_g := hfk.get hna_g (by simp only [List.mem_cons, List.not_mem_nil, or_false]; omega)
      have hnl_g := hfk.get hnl_g (by simp only [List.mem_cons, List.not_mem_nil, or_false]; omega)
      have hf_subject := hfk.get hf_subject (by decide)
      have hby_ := hfk.get hby_ (by decide)
      have hco := hfk.get hco (by decide)
      have hre := hfk.get hre (by decide)
      have hho := hfk.get hho (by decide)
      have hb221 := hfk.get hb221 (by decide)
      have hwk_k := hfk.get hwk_k (by decide)
      have hstk_k := hfk.get hstk_k (by decide)
      have pthI_f_threads := thI.fr hfk pthI_f_threads (by decide) (by decide) (by decide) (by decide) (by decide) (by decide) (by decide) (by decide)
      have pomI_f_oneMind := omI.fr hfk pomI_f_oneMind (by decide) (by decide) (by decide) (by decide) (by decide) (by decide) (by decide) (by decide)
      have pstI_f_states := stI.fr hfk pstI_f_states (by decide) (by decide) (by decide) (by decide) (by decide) (by decide) (by decide) (by decide) (by decide)
      have ppgX_0 := pgX.fr hfk ppgX_0 (fun xx hx => Or.inl ((show ∀ y ∈ ([44, 46] : List Nat), y < 100 by decide) xx hx))
      have hfr := hfr.tr hfk (by decide)
      have hq46 := hfk.1
      have hf_marks := hNf_marks
      have hmk236 := hNmk236
      change ab_W _ _ _ G32 59 [some (vR w_), some (vz sl), some (vR b6), some (vz (-1)), some (vz 0), none, none] [] _
      have hub_ := ucn_b (M := M238) (w := w234) (df := 0) (n := n) (by omega) (by omega)
      have pmkB_f_marks : mkB o33 G32 f_marks b6 f_subject f_spans nm237 ns cnt_g n 0 (ucn M238 w234 0 n) := ⟨wk_k, mk236, stk_k, w234, 0, dp_k, fo_k, fy235, 0, WK_k, M238, SK_k, hf_marks, hwk_k, hmk236, hstk_k, (by omega), hst_k, (by omega), (by omega), (by omega), (by omega), (by omega), (by omega)⟩
      have hzt2_ : zT nm237 52026 ≤ 156078 := zT_le (c := 52026) (by omega) rfl
      refine zz_iconst d_PW_split_59 ?_
      refine ab_istore d_PW_split_60 (Nat.le_of_ble_eq_true rfl) (Nat.le_of_ble_eq_true rfl) rfl ?_
      change ab_W _ _ _ G32 62 [some (vR w_), some (vz sl), some (vR b6), some (vz (-1)), some (vz 0), some (vz 0), none] [] _
      refine ab_less (L' := [some (vR w_), none, some (vR b6), some (vz (-1)), some (vz 0), some (vz 0), none]) (fun i v h => by rcases i with _ | _ | _ | _ | _ | _ | _ | i <;> first | exact h | (simp at h)) ?_
      refine y_PW_split_62 (w_ := w_) (f_ready := f_ready) (f_tape := f_tape) (f_reader := f_reader) (f_programs := f_programs) (f_subject := f_subject) (f_spans := f_spans) (f_threads := f_threads) (f_marks := f_marks) (f_oneMind := f_oneMind) (f_states := f_states) (f_latest := f_latest) (f_matches := f_matches) (f_pieces := f_pieces) (f_template := f_template) (f_result := f_result) (f_spare := f_spare) (cmp := cmp) (ovs := ovs) (q := b6) (lq := (100 + 10 * k_)) (ki := ki_g) (ne := ne_g) (ot := ot_g) (cnt := cnt_g) (fi := fi_g) (la := la_g) (ra := ra_g) (ru := ru_g) (gr := gr_g) (wi := wi_g) (sz := sz_) (fl := fl_g) (ve := ve_g) (mi := mi_) (K := K_g) (N := N_g) (O := O_g) (RR := RR_g) (nr := (NR k_)) (na := na_g) (nl := nl_g) (nm := nm237) (n := n) (by_ := by_) (co := co) (re := re) (ho := ho) (C := C) (Rs := Rs) (H := H) (mc := mc) (ns0 := ns) (mr0 := n222) (st0 := 0) (un0 := (ucn M238 w234 0 n)) (G0 := G32) (ns := ns) (SP := SP) (it_a := b221) (sz_a := (0 + 1)) (mr_a := n222) (F_a := f223) (bf := (-1)) (tu := 0) (ct_ := 0) (stm := 0) (un := (ucn M238 w234 0 n)) (by omega) (by omega) hp_g hr_g (by omega) (by omega) (by omega) hsu (by omega) (by omega) (by omega) (Int.toNat (n + 1 - 0) + 1) hw_ hf_spans hb6 hki_g hne_g hot_g hra_g hf_subject hco hre hho hf_pieces hb221 pmkB_f_marks (by omega) jsp (by omega) (by omega) (by omega) (by omega) (by omega) fx.rf (by omega) (fun G47 o48 ns249 SP250 ct251 it252 sz253 mr254 F255 sm256 un257 hNf_spans hNf_pieces hNit252 pNmkB_f_marks hq58 hq59 hq60 hq61 hq62 hq63 hfk => ?_)
      · have hw_ := hfk.get hw_ (by decide)
        have h17 := hfk.get h17 (by decide)
        have hf_programs := hfk.get hf_programs (by decide)
        have hb6 := hfk.get hb6 (by simp only [List.mem_cons, List.not_mem_nil, or_false]; omega)
        have hki_g := hfk.get hki_g (by simp only [List.mem_cons, List.not_mem_nil, or_false]; omega)
        have hne_g := hfk.get hne_g (by simp only [List.mem_cons, List.not_mem_nil, or_false]; omega)
        have hot_g := hfk.get hot_g (by simp only [List.mem_cons, List.not_mem_nil, or_false]; omega)
        have hra_g := hfk.get hra_g (by simp only [List.mem_cons, List.not_mem_nil, or_false]; omega)
        have hna_g := hfk.get hna_g (by simp only [List.mem_cons, List.not_mem_nil, or_false]; omega)
        have hnl_g := hfk.get hnl_g (by simp only [List.mem_cons, List.not_mem_nil, or_false]; omega)
        have hf_subject := hfk.get hf_subject (by decide)
        have hby_ := hfk.get hby_ (by decide)
        have hco := hfk.get hco (by decide)
        have hre := hfk.get hre (by decide)
        have hho := hfk.get hho (by decide)
        have pthI_f_threads := thI.fr hfk pthI_f_threads (by decide) (by decide) (by decide) (by decide) (by decide) (by decide) (by decide) (by decide)
        have pomI_f_oneMind := omI.fr hfk pomI_f_oneMind (by decide) (by decide) (by decide) (by decide) (by decide) (by decide) (by decide) (by decide)
        have pstI_f_states := stI.fr hfk pstI_f_states (by decide) (by decide) (by decide) (by decide) (by decide) (by decide) (by decide) (by decide) (by decide)
        have ppgX_0 := pgX.fr hfk ppgX_0 (fun xx hx => Or.inl ((show ∀ y ∈ ([31, 44, 45, 46, 47, 73, 74] : List Nat), y < 100 by decide) xx hx))
        have hfr := hfr.tr hfk (by decide)
        have hq64 := hfk.1
        have hf_spans := hNf_spans
        have hf_pieces := hNf_pieces
        have hit252 := hNit252
        have pmkB_f_marks := pNmkB_f_marks
        change ab_W _ _ _ G47 178 [some (vR w_), none, some (vR b6), none, some (vz ct251), none, none] [] _
        obtain ⟨wk_e, mk_e, stk_e, w_e, df_e, dp_e, fo_e, fy_e, hw_e, WK_e, M_e, SK_e, hf_marks, hwk_e, hmk_e, hstk_e, cn_e, hst_e, cf_e, cw_e, cm_e, cd_e, cst0_e, hun_e⟩ := pmkB_f_marks
        have hub2_ := ucn_b (M := M_e) (w := w_e) (df := df_e) (n := n) (by omega) (by omega)
        have pmkI_f_marks : mkI o48 G47 f_marks nm237 ns249 sm256 := ⟨wk_e, mk_e, stk_e, w_e, df_e, dp_e, fo_e, fy_e, hw_e, WK_e, M_e, SK_e, vR f_spans, vR b6, vR f_subject, hf_marks, hwk_e, hmk_e, hstk_e, (by omega), hst_e, (by omega), (by omega)⟩
        have hq65 := stT_le ns249
        have hq66 := stC_le ns249
        have hq67 := onP_le on
        have hq68 := onS_le on
        have hz69 : zT mr254 4004 ≤ 12012 := zT_le (c := 4004) (by omega) rfl
        refine ab_aload_n d_PW_split_178 rfl ?_
        refine ab_getf (fs := [vR f_ready, vR f_tape, vR f_reader, vR f_programs, vR f_subject, vR f_spans, vR f_threads, vR f_marks, vR f_oneMind, vR f_states, vR f_latest, vR f_matches, vR f_pieces, vR f_template, vR f_result, vR f_spare, vz cmp, vz ovs]) f_PW_79 d_PW_split_179 hw_.2.2 rfl ?_
        refine ab_aload_n d_PW_split_182 rfl ?_
        refine ab_getf (fs := [vR f_ready, vR f_tape, vR f_reader, vR f_programs, vR f_subject, vR f_spans, vR f_threads, vR f_marks, vR f_oneMind, vR f_states, vR f_latest, vR f_matches, vR f_pieces, vR f_template, vR f_result, vR f_spare, vz cmp, vz ovs]) f_PW_38 d_PW_split_183 hw_.2.2 rfl ?_
        refine ab_getf (fs := [vR by_, vR co, vR re, vR ho, vz n]) f_PW_164 d_PW_split_186 hf_subject.2.2 rfl ?_
        refine ab_callV (d' := d - 1) (as := [vz n]) (st := []) (r := _) (z_RW_add (o := o48) (r := f_pieces) (b := it252) (lr := 73) (lb := 74) (n := mr254) (lim := 4004) (sz := sz253) (f := F255) (x := n) hf_pieces hit252 (by omega) (by have h18 : ab_n0 = 18 := rfl; omega) (by omega) (by omega) (by omega)) (fun oc G2 h => by rcases h with ⟨h, _⟩ | ⟨_, _, _, _, h, _⟩ <;> exact ⟨_, h⟩) (by omega) m_RW_add ml_PW_197 im_RW_add se_RW_add c_RW hf_pieces.2.2 (Nat.le_of_ble_eq_true rfl) d_PW_split_189 rfl ?_
        intro v G70 hq
        rcases hq with ⟨hv, hGe, hq71⟩ | ⟨o72, b273, n274, f275, hv, hfk, hNf_pieces, hNb273, hq76, hq77, hq78, hq79, hq80, hq81⟩
        · cases hv
          rw [hGe]
          change ab_W _ _ _ G47 192 [some (vR w_), none, some (vR b6), none, some (vz ct251), none, none] [vz 0] _
          refine ab_pop d_PW_split_192 rfl ?_
          refine ab_aload_n d_PW_split_193 rfl ?_
          refine ab_aload_n d_PW_split_194 rfl ?_
          refine ab_getf (fs := [vR ki_g, vR ne_g, vR ot_g, vz cnt_g, vz fi_g, vz la_g, vR ra_g, vz ru_g, vz gr_g, vz wi_g, vz sz_, vz fl_g, vz ve_g, vz mi_, vR na_g, vR nl_g]) f_PW_152 d_PW_split_195 hb6.2.2 rfl ?_
          refine ab_iload d_PW_split_198 rfl ?_
          have psuI_f_subject : suI o48 G47 f_subject n m := ⟨by_, co, re, ho, f, C, Rs, H, mc, hf_subject, hby_, hco, hre, hho, (by omega), hsu⟩
          refine ab_callV (d' := d - 1) (as := [vz sz_, vz ct251]) (st := []) (r := _) (z_PW_settle (o := o48) (w_ := w_) (f_ready := f_ready) (f_tape := f_tape) (f_reader := f_reader) (f_programs := f_programs) (f_subject := f_subject) (f_spans := f_spans) (f_threads := f_threads) (f_marks := f_marks) (f_oneMind := f_oneMind) (f_states := f_states) (f_latest := f_latest) (f_matches := f_matches) (f_pieces := f_pieces) (f_template := f_template) (f_result := f_result) (f_spare := f_spare) (cmp := cmp) (ovs := ovs) (cv := cv) (on := on) (nm := nm237) (ns := ns249) (nt := nt) (n := n) (m := m) (z1 := sz_) (z2 := ct251) (stt := 0) (stm := sm256) (sto := 0) (sts := 0) hw_ pthI_f_threads pmkI_f_marks pomI_f_oneMind pstI_f_states psuI_f_subject (by omega) (by omega) (cmo_k (by omega) (by omega) (by omega) (by omega)) (by omega)) (fun oc G2 h => by rcases h with ⟨h, _⟩ <;> exact ⟨_, h⟩) (by omega) m_PW_settle ml_PW_175 im_PW_settle se_PW_settle c_PW hw_.2.2 (Nat.le_of_ble_eq_true rfl) d_PW_split_200 rfl ?_
          intro v G83 hq
          rcases hq with ⟨hv, hfk, hlk, hsk, hNw_, pNthI_f_threads, pNmkI_f_marks, pNomI_f_oneMind, pNstI_f_states, pNsuI_f_subject⟩
          cases hv
          have hf_spans := hfk.get hf_spans (by decide)
          have h17 := hfk.get h17 (by decide)
          have hf_programs := hfk.get hf_programs (by decide)
          have hf_pieces := hfk.get hf_pieces (by decide)
          have hb6 := hfk.get hb6 (by simp only [List.mem_cons, List.not_mem_nil, or_false]; omega)
          have hki_g := hfk.get hki_g (by simp only [List.mem_cons, List.not_mem_nil, or_false]; omega)
          have hne_g := hfk.get hne_g (by simp only [List.mem_cons, List.not_mem_nil, or_false]; omega)
          have hot_g := hfk.get hot_g (by simp only [List.mem_cons, List.not_mem_nil, or_false]; omega)
          have hra_g := hfk.get hra_g (by simp only [List.mem_cons, List.not_mem_nil, or_false]; omega)
          have hna_g := hfk.get hna_g (by simp only [List.mem_cons, List.not_mem_nil, or_false]; omega)
          have hnl_g := hfk.get hnl_g (by simp only [List.mem_cons, List.not_mem_nil, or_false]; omega)
          have hit252 := hfk.get hit252 (by decide)
          have ppgX_0 := pgX.fr hfk ppgX_0 (fun xx hx => Or.inl ((show ∀ y ∈ ([18, 32, 44, 50, 60] : List Nat), y < 100 by decide) xx hx))
          have pthI_f_threads := pNthI_f_threads
          have pmkI_f_marks := pNmkI_f_marks
          have pomI_f_oneMind := pNomI_f_oneMind
          have pstI_f_states := pNstI_f_states
          have psuI_f_subject := pNsuI_f_subject
          have hfr := hfr.tr hfk (by decide)
          have hq84 := hlk
          have hq85 := hsk
          have hw_ := hNw_
          change ab_W _ _ _ G83 203 [some (vR w_), none, some (vR b6), none, some (vz ct251), none, none] [] _
          refine ab_aload_n d_PW_split_203 rfl ?_
          refine ab_getf (fs := [vR f_ready, vR f_tape, vR f_reader, vR f_programs, vR f_subject, vR f_spans, vR f_threads, vR f_marks, vR f_oneMind, vR f_states, vR f_latest, vR f_matches, vR f_pieces, vR f_template, vR f_result, vR f_spare, vz cmp, vz ovs]) f_PW_79 d_PW_split_204 hw_.2.2 rfl ?_
          refine ab_getf (fs := [vz 4004, vR it252, vz sz253]) f_PW_101 d_PW_split_207 hf_pieces.2.2 rfl ?_
          refine zz_iconst d_PW_split_210 ?_
          refine zz_idiv d_PW_split_211 (by omega) ?_
          have hmq_ : onq mi_ on := hmi_g
          have ppgB_b6 : pgB o48 G83 b6 (100 + 10 * k_) (NR k_) cv cmp on mi_ sz_ := ⟨ki_g, ne_g, ot_g, cnt_g, fi_g, la_g, ra_g, ru_g, gr_g, wi_g, fl_g, ve_g, na_g, nl_g, K_g, N_g, O_g, RR_g, NA_g, NL_g, hb6, hki_g, hne_g, hot_g, hra_g, hna_g, hnl_g, (by omega), hpu_g, hp_g, hr_g, hch_g, (by omega), (by omega), (by omega), (by omega), (by omega), hpo_g, hmq_, (by omega), (by omega), jnl_g, (by omega)⟩
          have ppgI_0 := ppgX_0.cls hq7 ppgB_b6
          refine zz_iret rfl d_PW_split_212 ?_
          rw [hQ]; exact (Or.inr ⟨_, _, _, _, _, _, _, _, _, rfl, hfr, hw_, hf_spans, hf_pieces, hit252, pthI_f_threads, pmkI_f_marks, pomI_f_oneMind, pstI_f_states, psuI_f_subject, ppgI_0, (by exact hq59), (by omega), (by omega), (by omega)⟩)
        · cases hv
          have hw_ := hfk.get hw_ (by decide)
          have hf_spans := hfk.get hf_spans (by decide)
          have h17 := hfk.get h17 (by decide)
          have hf_programs := hfk.get hf_programs (by decide)
          have hb6 := hfk.get hb6 (by simp only [List.mem_cons, List.not_mem_nil, or_false]; omega)
          have hki_g := hfk.get hki_g (by simp only [List.mem_cons, List.not_mem_nil, or_false]; omega)
          have hne_g := hfk.get hne_g (by simp only [List.mem_cons, List.not_mem_nil, or_false]; omega)
          have hot_g := hfk.get hot_g (by simp only [List.mem_cons, List.not_mem_nil, or_false]; omega)
          have hra_g := hfk.get hra_g (by simp only [List.mem_cons, List.not_mem_nil, or_false]; omega)
          have hna_g := hfk.get hna_g (by simp only [List.mem_cons, List.not_mem_nil, or_false]; omega)
          have hnl_g := hfk.get hnl_g (by simp only [List.mem_cons, List.not_mem_nil, or_false]; omega)
          have hf_subject := hfk.get hf_subject (by decide)
          have hby_ := hfk.get hby_ (by decide)
          have hco := hfk.get hco (by decide)
          have hre := hfk.get hre (by decide)
          have hho := hfk.get hho (by decide)
          have pthI_f_threads := thI.fr hfk pthI_f_threads (by decide) (by decide) (by decide) (by decide) (by decide) (by decide) (by decide) (by decide)
          have pomI_f_oneMind := omI.fr hfk pomI_f_oneMind (by decide) (by decide) (by decide) (by decide) (by decide) (by decide) (by decide) (by decide)
          have pstI_f_states := stI.fr hfk pstI_f_states (by decide) (by decide) (by decide) (by decide) (by decide) (by decide) (by decide) (by decide) (by decide)
          have ppgX_0 := pgX.fr hfk ppgX_0 (fun xx hx => Or.inl ((show ∀ y ∈ ([73, 74] : List Nat), y < 100 by decide) xx hx))
          have pmkI_f_marks := mkI.fr hfk pmkI_f_marks (by decide) (by decide) (by decide) (by decide)
          have hfr := hfr.tr hfk (by decide)
          have hq82 := hfk.1
          have hf_pieces := hNf_pieces
          have hb273 := hNb273
          change ab_W _ _ _ G70 192 [some (vR w_), none, some (vR b6), none, some (vz ct251), none, none] [vz 1] _
          refine ab_pop d_PW_split_192 rfl ?_
          refine ab_aload_n d_PW_split_193 rfl ?_
          refine ab_aload_n d_PW_split_194 rfl ?_
          refine ab_getf (fs := [vR ki_g, vR ne_g, vR ot_g, vz cnt_g, vz fi_g, vz la_g, vR ra_g, vz ru_g, vz gr_g, vz wi_g, vz sz_, vz fl_g, vz ve_g, vz mi_, vR na_g, vR nl_g]) f_PW_152 d_PW_split_195 hb6.2.2 rfl ?_
          refine ab_iload d_PW_split_198 rfl ?_
          have psuI_f_subject : suI o72 G70 f_subject n m := ⟨by_, co, re, ho, f, C, Rs, H, mc, hf_subject, hby_, hco, hre, hho, (by omega), hsu⟩
          refine ab_callV (d' := d - 1) (as := [vz sz_, vz ct251]) (st := []) (r := _) (z_PW_settle (o := o72) (w_ := w_) (f_ready := f_ready) (f_tape := f_tape) (f_reader := f_reader) (f_programs := f_programs) (f_subject := f_subject) (f_spans := f_spans) (f_threads := f_threads) (f_marks := f_marks) (f_oneMind := f_oneMind) (f_states := f_states) (f_latest := f_latest) (f_matches := f_matches) (f_pieces := f_pieces) (f_template := f_template) (f_result := f_result) (f_spare := f_spare) (cmp := cmp) (ovs := ovs) (cv := cv) (on := on) (nm := nm237) (ns := ns249) (nt := nt) (n := n) (m := m) (z1 := sz_) (z2 := ct251) (stt := 0) (stm := sm256) (sto := 0) (sts := 0) hw_ pthI_f_threads pmkI_f_marks pomI_f_oneMind pstI_f_states psuI_f_subject (by omega) (by omega) (cmo_k (by omega) (by omega) (by omega) (by omega)) (by omega)) (fun oc G2 h => by rcases h with ⟨h, _⟩ <;> exact ⟨_, h⟩) (by omega) m_PW_settle ml_PW_175 im_PW_settle se_PW_settle c_PW hw_.2.2 (Nat.le_of_ble_eq_true rfl) d_PW_split_200 rfl ?_
          intro v G86 hq
          rcases hq with ⟨hv, hfk, hlk, hsk, hNw_, pNthI_f_threads, pNmkI_f_marks, pNomI_f_oneMind, pNstI_f_states, pNsuI_f_subject⟩
          cases hv
          have hf_spans := hfk.get hf_spans (by decide)
          have h17 := hfk.get h17 (by decide)
          have hf_programs := hfk.get hf_programs (by decide)
          have hf_pieces := hfk.get hf_pieces (by decide)
          have hb6 := hfk.get hb6 (by simp only [List.mem_cons, List.not_mem_nil, or_false]; omega)
          have hki_g := hfk.get hki_g (by simp only [List.mem_cons, List.not_mem_nil, or_false]; omega)
          have hne_g := hfk.get hne_g (by simp only [List.mem_cons, List.not_mem_nil, or_false]; omega)
          have hot_g := hfk.get hot_g (by simp only [List.mem_cons, List.not_mem_nil, or_false]; omega)
          have hra_g := hfk.get hra_g (by simp only [List.mem_cons, List.not_mem_nil, or_false]; omega)
          have hna_g := hfk.get hna_g (by simp only [List.mem_cons, List.not_mem_nil, or_false]; omega)
          have hnl_g := hfk.get hnl_g (by simp only [List.mem_cons, List.not_mem_nil, or_false]; omega)
          have hb273 := hfk.get hb273 (by decide)
          have ppgX_0 := pgX.fr hfk ppgX_0 (fun xx hx => Or.inl ((show ∀ y ∈ ([18, 32, 44, 50, 60] : List Nat), y < 100 by decide) xx hx))
          have pthI_f_threads := pNthI_f_threads
          have pmkI_f_marks := pNmkI_f_marks
          have pomI_f_oneMind := pNomI_f_oneMind
          have pstI_f_states := pNstI_f_states
          have psuI_f_subject := pNsuI_f_subject
          have hfr := hfr.tr hfk (by decide)
          have hq87 := hlk
          have hq88 := hsk
          have hw_ := hNw_
          change ab_W _ _ _ G86 203 [some (vR w_), none, some (vR b6), none, some (vz ct251), none, none] [] _
          refine ab_aload_n d_PW_split_203 rfl ?_
          refine ab_getf (fs := [vR f_ready, vR f_tape, vR f_reader, vR f_programs, vR f_subject, vR f_spans, vR f_threads, vR f_marks, vR f_oneMind, vR f_states, vR f_latest, vR f_matches, vR f_pieces, vR f_template, vR f_result, vR f_spare, vz cmp, vz ovs]) f_PW_79 d_PW_split_204 hw_.2.2 rfl ?_
          refine ab_getf (fs := [vz 4004, vR b273, vz (sz253 + 1)]) f_PW_101 d_PW_split_207 hf_pieces.2.2 rfl ?_
          refine zz_iconst d_PW_split_210 ?_
          refine zz_idiv d_PW_split_211 (by omega) ?_
          have hmq_ : onq mi_ on := hmi_g
          have ppgB_b6 : pgB o72 G86 b6 (100 + 10 * k_) (NR k_) cv cmp on mi_ sz_ := ⟨ki_g, ne_g, ot_g, cnt_g, fi_g, la_g, ra_g, ru_g, gr_g, wi_g, fl_g, ve_g, na_g, nl_g, K_g, N_g, O_g, RR_g, NA_g, NL_g, hb6, hki_g, hne_g, hot_g, hra_g, hna_g, hnl_g, (by omega), hpu_g, hp_g, hr_g, hch_g, (by omega), (by omega), (by omega), (by omega), (by omega), hpo_g, hmq_, (by omega), (by omega), jnl_g, (by omega)⟩
          have ppgI_0 := ppgX_0.cls hq7 ppgB_b6
          refine zz_iret rfl d_PW_split_212 ?_
          rw [hQ]; exact (Or.inr ⟨_, _, _, _, _, _, _, _, _, rfl, hfr, hw_, hf_spans, hf_pieces, hb273, pthI_f_threads, pmkI_f_marks, pomI_f_oneMind, pstI_f_states, psuI_f_subject, ppgI_0, (by exact hq59), (by omega), (by omega), (by omega)⟩)
