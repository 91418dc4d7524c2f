set_option maxRecDepth 100000 in
set_option maxHeartbeats 4000000 in
theorem z_PW_match {X : ab_X} {d : Nat} {o : Nat → Nat} {G : ab_G} {w_ : Nat} {f_ready : Nat} {f_tape : Nat} {f_reader : Nat} {f_programs : Nat} {f_subject : Nat} {f_spans : Nat} {f_threads : Nat} {f_marks : Nat} {f_oneMind : Nat} {f_states : Nat} {f_latest : Nat} {f_matches : Nat} {f_pieces : Nat} {f_template : Nat} {f_result : Nat} {f_spare : Nat} {cmp : Int} {ovs : Int} {PG : Nat → Option Nat} {NR : Nat → Nat} {cv : Int → Int} {on : Nat} {nm : Nat} {ns : Nat} {nt : Nat} {n : Int} {m : Nat} {SP : Int → Int} {LA : Int → Int} {sl : Int} {hw : Int} {mch : Int} {p : Int} {k_ : Nat} (hw_ : cc o G w_ 18 (ab_ob 0 [vR f_ready, vR f_tape, vR f_reader, vR f_programs, vR f_subject, vR f_spans, vR f_threads, vR f_marks, vR f_oneMind, vR f_states, vR f_latest, vR f_matches, vR f_pieces, vR f_template, vR f_result, vR f_spare, vz cmp, vz ovs])) (hf_spans : cc o G f_spans 31 (za 20 SP)) (h17 : cc o G 17 17 (za 12 zFC)) (hf_latest : cc o G f_latest 70 (za 20 LA)) (hf_programs : cc o G f_programs 81 (ab_rr 6 PG)) (pthI_f_threads : thI o G f_threads) (pmkI_f_marks : mkI o G f_marks nm ns) (pomI_f_oneMind : omI o G f_oneMind on nt) (pstI_f_states : stI o G f_states cv cmp) (psuI_f_subject : suI o G f_subject n m) (ppgI_0 : pgI o G 0 PG NR cv cmp on) (n18 : ab_n0 = 18) (hkq : kq6 sl k_) (cr : -2147483648 ≤ sl ∧ sl ≤ 2147483647 ∧ -2147483648 ≤ hw ∧ hw ≤ 2147483647 ∧ -2147483648 ≤ mch ∧ mch ≤ 2147483647 ∧ -2147483648 ≤ p ∧ p ≤ 2147483647) (jsp : rgs SP 20 (-1) 2000) (rc : 64 * G.length + 4600000 ≤ 64 * (ab_n0 + room_1.cells) + (64 * nm + 64 * stC ns + nt + onP on)) (rs : ab_slots G + 2360000 ≤ room_1.slots + (zT nm 52026 + stT ns + 2 * nt + onS on)) (hd : 16 ≤ d) : ab_F X d y_PW_match (.code y_PW_match b_PW_match 7 (some (.int))) [vR w_, vz sl, vz hw, vz mch, vz p] G (fun oc G2 => (∃ o2 : Nat → Nat, ∃ b : Nat, oc = .threw b ∧ fx o o2 [18, 70, 31, 32, 33, 35, 36, 37, 38, 39, 40, 44, 45, 46, 47, 50, 51, 52, 53, 54, 55, 56, 57, 60, 61, 62, 63, 64, 65, 66, 67, 68, (100 + 10 * k_)] G G2 ∧ cc o2 G2 w_ 18 (ab_ob 0 [vR f_ready, vR f_tape, vR f_reader, vR f_programs, vR f_subject, vR f_spans, vR f_threads, vR f_marks, vR f_oneMind, vR f_states, vR f_latest, vR f_matches, vR f_pieces, vR f_template, vR f_result, vR f_spare, vz cmp, vz ovs]) ∧ cc o2 G2 f_spans 31 (za 20 SP) ∧ cc o2 G2 f_latest 70 (za 20 LA) ∧ thI o2 G2 f_threads ∧ mkI o2 G2 f_marks nm ns ∧ omI o2 G2 f_oneMind on nt ∧ stI o2 G2 f_states cv cmp ∧ suI o2 G2 f_subject n m ∧ pgI o2 G2 0 PG NR cv cmp on ∧ (G2[b]? = some (.inr (13, []))) ∧ (G2.length = G.length + 1) ∧ (ab_slots G2 = ab_slots G + 6)) ∨ (∃ o2 : Nat → Nat, ∃ nm2 : Nat, ∃ ns2 : Nat, ∃ on2 : Nat, ∃ nt2 : Nat, ∃ ov2 : Int, ∃ SP2 : Int → Int, ∃ LA2 : Int → Int, ∃ r : Int, oc = .returned (some (vz r)) ∧ fx o o2 [18, 70, 31, 32, 33, 35, 36, 37, 38, 39, 40, 44, 45, 46, 47, 50, 51, 52, 53, 54, 55, 56, 57, 60, 61, 62, 63, 64, 65, 66, 67, 68, (100 + 10 * k_)] G G2 ∧ cc o2 G2 w_ 18 (ab_ob 0 [vR f_ready, vR f_tape, vR f_reader, vR f_programs, vR f_subject, vR f_spans, vR f_threads, vR f_marks, vR f_oneMind, vR f_states, vR f_latest, vR f_matches, vR f_pieces, vR f_template, vR f_result, vR f_spare, vz cmp, vz ov2]) ∧ cc o2 G2 f_spans 31 (za 20 SP2) ∧ cc o2 G2 f_latest 70 (za 20 LA2) ∧ thI o2 G2 f_threads ∧ mkI o2 G2 f_marks nm2 ns2 ∧ omI o2 G2 f_oneMind on2 nt2 ∧ stI o2 G2 f_states cv cmp ∧ suI o2 G2 f_subject n m ∧ pgI o2 G2 0 PG NR cv cmp on2 ∧ (rgs SP2 20 (-1) 2000) ∧ (64 * G2.length + (64 * nm + 64 * stC ns + nt + onP on) ≤ 64 * G.length + (64 * nm2 + 64 * stC ns2 + nt2 + onP on2)) ∧ (ab_slots G2 + (zT nm 52026 + stT ns + 2 * nt + onS on) ≤ ab_slots G + (zT nm2 52026 + stT ns2 + 2 * nt2 + onS on2)) ∧ (onL on on2))) := by
  refine ab_F_of (by decide +kernel) (Nat.le_of_ble_eq_true rfl) ?_
  obtain ⟨Q, hQ⟩ : ∃ z : Outcome → ab_G → Prop, z = (fun oc G2 => (∃ o2 : Nat → Nat, ∃ b : Nat, oc = .threw b ∧ fx o o2 [18, 70, 31, 32, 33, 35, 36, 37, 38, 39, 40, 44, 45, 46, 47, 50, 51, 52, 53, 54, 55, 56, 57, 60, 61, 62, 63, 64, 65, 66, 67, 68, (100 + 10 * k_)] G G2 ∧ cc o2 G2 w_ 18 (ab_ob 0 [vR f_ready, vR f_tape, vR f_reader, vR f_programs, vR f_subject, vR f_spans, vR f_threads, vR f_marks, vR f_oneMind, vR f_states, vR f_latest, vR f_matches, vR f_pieces, vR f_template, vR f_result, vR f_spare, vz cmp, vz ovs]) ∧ cc o2 G2 f_spans 31 (za 20 SP) ∧ cc o2 G2 f_latest 70 (za 20 LA) ∧ thI o2 G2 f_threads ∧ mkI o2 G2 f_marks nm ns ∧ omI o2 G2 f_oneMind on nt ∧ stI o2 G2 f_states cv cmp ∧ suI o2 G2 f_subject n m ∧ pgI o2 G2 0 PG NR cv cmp on ∧ (G2[b]? = some (.inr (13, []))) ∧ (G2.length = G.length + 1) ∧ (ab_slots G2 = ab_slots G + 6)) ∨ (∃ o2 : Nat → Nat, ∃ nm2 : Nat, ∃ ns2 : Nat, ∃ on2 : Nat, ∃ nt2 : Nat, ∃ ov2 : Int, ∃ SP2 : Int → Int, ∃ LA2 : Int → Int, ∃ r : Int, oc = .returned (some (vz r)) ∧ fx o o2 [18, 70, 31, 32, 33, 35, 36, 37, 38, 39, 40, 44, 45, 46, 47, 50, 51, 52, 53, 54, 55, 56, 57, 60, 61, 62, 63, 64, 65, 66, 67, 68, (100 + 10 * k_)] G G2 ∧ cc o2 G2 w_ 18 (ab_ob 0 [vR f_ready, vR f_tape, vR f_reader, vR f_programs, vR f_subject, vR f_spans, vR f_threads, vR f_marks, vR f_oneMind, vR f_states, vR f_latest, vR f_matches, vR f_pieces, vR f_template, vR f_result, vR f_spare, vz cmp, vz ov2]) ∧ cc o2 G2 f_spans 31 (za 20 SP2) ∧ cc o2 G2 f_latest 70 (za 20 LA2) ∧ thI o2 G2 f_threads ∧ mkI o2 G2 f_marks nm2 ns2 ∧ omI o2 G2 f_oneMind on2 nt2 ∧ stI o2 G2 f_states cv cmp ∧ suI o2 G2 f_subject n m ∧ pgI o2 G2 0 PG NR cv cmp on2 ∧ (rgs SP2 20 (-1) 2000) ∧ (64 * G2.length + (64 * nm + 64 * stC ns + nt + onP on) ≤ 64 * G.length + (64 * nm2 + 64 * stC ns2 + nt2 + onP on2)) ∧ (ab_slots G2 + (zT nm 52026 + stT ns + 2 * nt + onS on) ≤ ab_slots G + (zT nm2 52026 + stT ns2 + 2 * nt2 + onS on2)) ∧ (onL on on2))) := ⟨_, rfl⟩
  rw [← hQ]
  change ab_W X (ab_pl y_PW_match b_PW_match 7 (some (.int))) d G 0 [some (vR w_), some (vz sl), some (vz hw), some (vz mch), some (vz p), none, none] [] Q
  have hfr : fx o o [18, 70, 31, 32, 33, 35, 36, 37, 38, 39, 40, 44, 45, 46, 47, 50, 51, 52, 53, 54, 55, 56, 57, 60, 61, 62, 63, 64, 65, 66, 67, 68, (100 + 10 * k_)] G G := fx.rf
  have hq1 := stT_le ns
  have hq2 := stC_le ns
  have hq3 := onP_le on
  have hq4 := onS_le on
  have hnt_ := pomI_f_oneMind.nt
  have hnm_ := pmkI_f_marks.b
  have hzt_ : zT nm 52026 ≤ 156078 := zT_le (c := 52026) (by omega) rfl
  refine ab_aload_n d_PW_match_0 rfl ?_
  refine ab_iload_n d_PW_match_1 rfl ?_
  refine ab_callV (d' := d - 1) (as := [vz sl]) (st := []) (r := _) (z_PW_programAt (o := o) (w_ := w_) (f_ready := f_ready) (f_tape := f_tape) (f_reader := f_reader) (f_programs := f_programs) (f_subject := f_subject) (f_spans := f_spans) (f_threads := f_threads) (f_marks := f_marks) (f_oneMind := f_oneMind) (f_states := f_states) (f_latest := f_latest) (f_matches := f_matches) (f_pieces := f_pieces) (f_template := f_template) (f_result := f_result) (f_spare := f_spare) (cmp := cmp) (ovs := ovs) (PG := PG) (k := sl) hw_ hf_programs (by omega)) (fun oc G2 h => by rcases h with ⟨h, _⟩ | ⟨_, h, _⟩ <;> exact ⟨_, h⟩) (by omega) m_PW_programAt ml_PW_148 im_PW_programAt se_PW_programAt c_PW hw_.2.2 (Nat.le_of_ble_eq_true rfl) d_PW_match_2 rfl ?_
  intro v G5 hq
  rcases hq with ⟨hv, hGe⟩ | ⟨b6, hv, hGe, hq7, hq8⟩
  · cases hv
    rw [hGe]
    change ab_W _ _ _ G 5 [some (vR w_), some (vz sl), some (vz hw), some (vz mch), some (vz p), none, none] [vN] _
    refine ab_astoreN d_PW_match_5 (Nat.le_of_ble_eq_true rfl) (Nat.le_of_ble_eq_true rfl) rfl ?_
    change ab_W _ _ _ G 7 [some (vR w_), some (vz sl), some (vz hw), some (vz mch), some (vz p), some (vN), none] [] _
    refine ab_aloadN d_PW_match_7 rfl ?_
    refine ab_ifnullN (tgt := 30) d_PW_match_9 (by decide) ?_
    refine ab_throw (tx := "no pattern there, or no such how or machine") (by decide) (fun c h => h) cl_PW_109 inst_IA ini_IA tw_PW_113 d_PW_match_30 d_PW_match_33 d_PW_match_34 d_PW_match_36 d_PW_match_39 (by omega) (by omega) (by omega) ?_
    obtain ⟨G9, eG9⟩ : ∃ z : ab_G, z = G ++ [.inr (13, [])] := ⟨_, rfl⟩
    obtain ⟨o10, eo10⟩ : ∃ z : Nat → Nat, z = ol o G.length 99 := ⟨_, rfl⟩
    obtain ⟨a11, ea11⟩ : ∃ z : Nat, z = G.length := ⟨_, rfl⟩
    have hq12 := hf_programs.n0 (by first | decide | omega)
    have ne_a11_w_ : nq a11 w_ := by have hlt := hw_.lt; unfold nq; omega
    have ne_a11_f_spans : nq a11 f_spans := by have hlt := hf_spans.lt; unfold nq; omega
    have ne_a11_17 : nq a11 17 := by have hlt := h17.lt; unfold nq; omega
    have ne_a11_f_latest : nq a11 f_latest := by have hlt := hf_latest.lt; unfold nq; omega
    have ne_a11_f_programs : nq a11 f_programs := by have hlt := hf_programs.lt; unfold nq; omega
    have hw_ := hw_.akeep (k := 99) eG9
    rw [← eo10] at hw_
    have hf_spans := hf_spans.akeep (k := 99) eG9
    rw [← eo10] at hf_spans
    have h17 := h17.akeep (k := 99) eG9
    rw [← eo10] at h17
    have hf_latest := hf_latest.akeep (k := 99) eG9
    rw [← eo10] at hf_latest
    have hf_programs := hf_programs.akeep (k := 99) eG9
    rw [← eo10] at hf_programs
    have hst := (fx.rf (o := o) (S := []) (G := G)).ap (k := 99) eG9
    rw [← eo10] at hst
    have pthI_f_threads := thI.fr hst pthI_f_threads (by decide) (by decide) (by decide) (by decide) (by decide) (by decide) (by decide) (by decide)
    have pmkI_f_marks := mkI.fr hst pmkI_f_marks (by decide) (by decide) (by decide) (by decide)
    have pomI_f_oneMind := omI.fr hst pomI_f_oneMind (by decide) (by decide) (by decide) (by decide) (by decide) (by decide) (by decide) (by decide)
    have pstI_f_states := stI.fr hst pstI_f_states (by decide) (by decide) (by decide) (by decide) (by decide) (by decide) (by decide) (by decide) (by decide)
    have psuI_f_subject := suI.fr hst psuI_f_subject (by decide) (by decide) (by decide) (by decide) (by decide)
    have ppgI_0 := pgI.fr hst ppgI_0  (by simp)
    have ha11 := cc.anew (o := o) 99 eG9 hq12
    rw [← eo10, ← ea11] at ha11
    have hfr := hfr.ap (k := 99) eG9
    rw [← eo10] at hfr
    have hq13 := z_alen eG9
    have hq14 : ab_slots G9 = ab_slots G + 6 := z_asl eG9 hq12
    rw [← ea11, ← eG9]
    rw [hQ]; exact (Or.inl ⟨_, _, rfl, hfr, hw_, hf_spans, hf_latest, pthI_f_threads, pmkI_f_marks, pomI_f_oneMind, pstI_f_states, psuI_f_subject, ppgI_0, (by exact ha11.2.2), (by omega), (by omega)⟩)
  · cases hv
    rw [hGe]
    change ab_W _ _ _ G 5 [some (vR w_), some (vz sl), some (vz hw), some (vz mch), some (vz p), none, none] [vR b6] _
    refine ab_astore d_PW_match_5 (Nat.le_of_ble_eq_true rfl) (Nat.le_of_ble_eq_true rfl) rfl ?_
    change ab_W _ _ _ G 7 [some (vR w_), some (vz sl), some (vz hw), some (vz mch), some (vz p), some (vR b6), none] [] _
    refine ab_aload d_PW_match_7 rfl ?_
    refine ab_ifnull d_PW_match_9 ?_
    refine ab_iload_n d_PW_match_12 rfl ?_
    refine zz_if_lt (tgt := 30) d_PW_match_13 (by decide) (by omega) (fun c15 => ?_) (fun c15 => ?_)
    · refine ab_throw (tx := "no pattern there, or no such how or machine") (by decide) (fun c h => h) cl_PW_109 inst_IA ini_IA tw_PW_113 d_PW_match_30 d_PW_match_33 d_PW_match_34 d_PW_match_36 d_PW_match_39 (by omega) (by omega) (by omega) ?_
      obtain ⟨G16, eG16⟩ : ∃ z : ab_G, z = G ++ [.inr (13, [])] := ⟨_, rfl⟩
      obtain ⟨o17, eo17⟩ : ∃ z : Nat → Nat, z = ol o G.length 99 := ⟨_, rfl⟩
      obtain ⟨a18, ea18⟩ : ∃ z : Nat, z = G.length := ⟨_, rfl⟩
      have hq19 := hf_programs.n0 (by first | decide | omega)
      have ne_a18_w_ : nq a18 w_ := by have hlt := hw_.lt; unfold nq; omega
      have ne_a18_f_spans : nq a18 f_spans := by have hlt := hf_spans.lt; unfold nq; omega
      have ne_a18_17 : nq a18 17 := by have hlt := h17.lt; unfold nq; omega
      have ne_a18_f_latest : nq a18 f_latest := by have hlt := hf_latest.lt; unfold nq; omega
      have ne_a18_f_programs : nq a18 f_programs := by have hlt := hf_programs.lt; unfold nq; omega
      have hw_ := hw_.akeep (k := 99) eG16
      rw [← eo17] at hw_
      have hf_spans := hf_spans.akeep (k := 99) eG16
      rw [← eo17] at hf_spans
      have h17 := h17.akeep (k := 99) eG16
      rw [← eo17] at h17
      have hf_latest := hf_latest.akeep (k := 99) eG16
      rw [← eo17] at hf_latest
      have hf_programs := hf_programs.akeep (k := 99) eG16
      rw [← eo17] at hf_programs
      have hst := (fx.rf (o := o) (S := []) (G := G)).ap (k := 99) eG16
      rw [← eo17] at hst
      have pthI_f_threads := thI.fr hst pthI_f_threads (by decide) (by decide) (by decide) (by decide) (by decide) (by decide) (by decide) (by decide)
      have pmkI_f_marks := mkI.fr hst pmkI_f_marks (by decide) (by decide) (by decide) (by decide)
      have pomI_f_oneMind := omI.fr hst pomI_f_oneMind (by decide) (by decide) (by decide) (by decide) (by decide) (by decide) (by decide) (by decide)
      have pstI_f_states := stI.fr hst pstI_f_states (by decide) (by decide) (by decide) (by decide) (by decide) (by decide) (by decide) (by decide) (by decide)
      have psuI_f_subject := suI.fr hst psuI_f_subject (by decide) (by decide) (by decide) (by decide) (by decide)
      have ppgI_0 := pgI.fr hst ppgI_0  (by simp)
      have ha18 := cc.anew (o := o) 99 eG16 hq19
      rw [← eo17, ← ea18] at ha18
      have hfr := hfr.ap (k := 99) eG16
      rw [← eo17] at hfr
      have hq20 := z_alen eG16
      have hq21 : ab_slots G16 = ab_slots G + 6 := z_asl eG16 hq19
      rw [← ea18, ← eG16]
      rw [hQ]; exact (Or.inl ⟨_, _, rfl, hfr, hw_, hf_spans, hf_latest, pthI_f_threads, pmkI_f_marks, pomI_f_oneMind, pstI_f_states, psuI_f_subject, ppgI_0, (by exact ha18.2.2), (by omega), (by omega)⟩)
    · refine ab_iload_n d_PW_match_16 rfl ?_
      refine zz_iconst d_PW_match_17 ?_
      refine zz_icmp_gt (tgt := 30) d_PW_match_18 (by decide) (by omega) (by decide) (fun c22 => ?_) (fun c22 => ?_)
      · refine ab_throw (tx := "no pattern there, or no such how or machine") (by decide) (fun c h => h) cl_PW_109 inst_IA ini_IA tw_PW_113 d_PW_match_30 d_PW_match_33 d_PW_match_34 d_PW_match_36 d_PW_match_39 (by omega) (by omega) (by omega) ?_
        obtain ⟨G23, eG23⟩ : ∃ z : ab_G, z = G ++ [.inr (13, [])] := ⟨_, rfl⟩
        obtain ⟨o24, eo24⟩ : ∃ z : Nat → Nat, z = ol o G.length 99 := ⟨_, rfl⟩
        obtain ⟨a25, ea25⟩ : ∃ z : Nat, z = G.length := ⟨_, rfl⟩
        have hq26 := hf_programs.n0 (by first | decide | omega)
        have ne_a25_w_ : nq a25 w_ := by have hlt := hw_.lt; unfold nq; omega
        have ne_a25_f_spans : nq a25 f_spans := by have hlt := hf_spans.lt; unfold nq; omega
        have ne_a25_17 : nq a25 17 := by have hlt := h17.lt; unfold nq; omega
        have ne_a25_f_latest : nq a25 f_latest := by have hlt := hf_latest.lt; unfold nq; omega
        have ne_a25_f_programs : nq a25 f_programs := by have hlt := hf_programs.lt; unfold nq; omega
        have hw_ := hw_.akeep (k := 99) eG23
        rw [← eo24] at hw_
        have hf_spans := hf_spans.akeep (k := 99) eG23
        rw [← eo24] at hf_spans
        have h17 := h17.akeep (k := 99) eG23
        rw [← eo24] at h17
        have hf_latest := hf_latest.akeep (k := 99) eG23
        rw [← eo24] at hf_latest
        have hf_programs := hf_programs.akeep (k := 99) eG23
        rw [← eo24] at hf_programs
        have hst := (fx.rf (o := o) (S := []) (G := G)).ap (k := 99) eG23
        rw [← eo24] at hst
        have pthI_f_threads := thI.fr hst pthI_f_threads (by decide) (by decide) (by decide) (by decide) (by decide) (by decide) (by decide) (by decide)
        have pmkI_f_marks := mkI.fr hst pmkI_f_marks (by decide) (by decide) (by decide) (by decide)
        have pomI_f_oneMind := omI.fr hst pomI_f_oneMind (by decide) (by decide) (by decide) (by decide) (by decide) (by decide) (by decide) (by decide)
        have pstI_f_states := stI.fr hst pstI_f_states (by decide) (by decide) (by decide) (by decide) (by decide) (by decide) (by decide) (by decide) (by decide)
        have psuI_f_subject := suI.fr hst psuI_f_subject (by decide) (by decide) (by decide) (by decide) (by decide)
        have ppgI_0 := pgI.fr hst ppgI_0  (by simp)
        have ha25 := cc.anew (o := o) 99 eG23 hq26
        rw [← eo24, ← ea25] at ha25
        have hfr := hfr.ap (k := 99) eG23
        rw [← eo24] at hfr
        have hq27 := z_alen eG23
        have hq28 : ab_slots G23 = ab_slots G + 6 := z_asl eG23 hq26
        rw [← ea25, ← eG23]
        rw [hQ]; exact (Or.inl ⟨_, _, rfl, hfr, hw_, hf_spans, hf_latest, pthI_f_threads, pmkI_f_marks, pomI_f_oneMind, pstI_f_states, psuI_f_subject, ppgI_0, (by exact ha25.2.2), (by omega), (by omega)⟩)
      · refine ab_iload_n d_PW_match_21 rfl ?_
        refine zz_if_lt (tgt := 30) d_PW_match_22 (by decide) (by omega) (fun c29 => ?_) (fun c29 => ?_)
        · refine ab_throw (tx := "no pattern there, or no such how or machine") (by decide) (fun c h => h) cl_PW_109 inst_IA ini_IA tw_PW_113 d_PW_match_30 d_PW_match_33 d_PW_match_34 d_PW_match_36 d_PW_match_39 (by omega) (by omega) (by omega) ?_
          obtain ⟨G30, eG30⟩ : ∃ z : ab_G, z = G ++ [.inr (13, [])] := ⟨_, rfl⟩
          obtain ⟨o31, eo31⟩ : ∃ z : Nat → Nat, z = ol o G.length 99 := ⟨_, rfl⟩
          obtain ⟨a32, ea32⟩ : ∃ z : Nat, z = G.length := ⟨_, rfl⟩
          have hq33 := hf_programs.n0 (by first | decide | omega)
          have ne_a32_w_ : nq a32 w_ := by have hlt := hw_.lt; unfold nq; omega
          have ne_a32_f_spans : nq a32 f_spans := by have hlt := hf_spans.lt; unfold nq; omega
          have ne_a32_17 : nq a32 17 := by have hlt := h17.lt; unfold nq; omega
          have ne_a32_f_latest : nq a32 f_latest := by have hlt := hf_latest.lt; unfold nq; omega
          have ne_a32_f_programs : nq a32 f_programs := by have hlt := hf_programs.lt; unfold nq; omega
          have hw_ := hw_.akeep (k := 99) eG30
          rw [← eo31] at hw_
          have hf_spans := hf_spans.akeep (k := 99) eG30
          rw [← eo31] at hf_spans
          have h17 := h17.akeep (k := 99) eG30
          rw [← eo31] at h17
          have hf_latest := hf_latest.akeep (k := 99) eG30
          rw [← eo31] at hf_latest
          have hf_programs := hf_programs.akeep (k := 99) eG30
          rw [← eo31] at hf_programs
          have hst := (fx.rf (o := o) (S := []) (G := G)).ap (k := 99) eG30
          rw [← eo31] at hst
          have pthI_f_threads := thI.fr hst pthI_f_threads (by decide) (by decide) (by decide) (by decide) (by decide) (by decide) (by decide) (by decide)
          have pmkI_f_marks := mkI.fr hst pmkI_f_marks (by decide) (by decide) (by decide) (by decide)
          have pomI_f_oneMind := omI.fr hst pomI_f_oneMind (by decide) (by decide) (by decide) (by decide) (by decide) (by decide) (by decide) (by decide)
          have pstI_f_states := stI.fr hst pstI_f_states (by decide) (by decide) (by decide) (by decide) (by decide) (by decide) (by decide) (by decide) (by decide)
          have psuI_f_subject := suI.fr hst psuI_f_subject (by decide) (by decide) (by decide) (by decide) (by decide)
          have ppgI_0 := pgI.fr hst ppgI_0  (by simp)
          have ha32 := cc.anew (o := o) 99 eG30 hq33
          rw [← eo31, ← ea32] at ha32
          have hfr := hfr.ap (k := 99) eG30
          rw [← eo31] at hfr
          have hq34 := z_alen eG30
          have hq35 : ab_slots G30 = ab_slots G + 6 := z_asl eG30 hq33
          rw [← ea32, ← eG30]
          rw [hQ]; exact (Or.inl ⟨_, _, rfl, hfr, hw_, hf_spans, hf_latest, pthI_f_threads, pmkI_f_marks, pomI_f_oneMind, pstI_f_states, psuI_f_subject, ppgI_0, (by exact ha32.2.2), (by omega), (by omega)⟩)
        · refine ab_iload_n d_PW_match_25 rfl ?_
          refine zz_iconst d_PW_match_26 ?_
          refine zz_icmp_le (tgt := 40) d_PW_match_27 (by decide) (by omega) (by decide) (fun c36 => ?_) (fun c36 => ?_)
          · refine ab_iload d_PW_match_40 rfl ?_
            refine zz_if_lt (tgt := 57) d_PW_match_42 (by decide) (by omega) (fun c37 => ?_) (fun c37 => ?_)
            · refine ab_throw (tx := "no such place") (by decide) (fun c h => h) cl_PW_109 inst_IA ini_IA tw_PW_113 d_PW_match_57 d_PW_match_60 d_PW_match_61 d_PW_match_63 d_PW_match_66 (by omega) (by omega) (by omega) ?_
              obtain ⟨G38, eG38⟩ : ∃ z : ab_G, z = G ++ [.inr (13, [])] := ⟨_, rfl⟩
              obtain ⟨o39, eo39⟩ : ∃ z : Nat → Nat, z = ol o G.length 99 := ⟨_, rfl⟩
              obtain ⟨a40, ea40⟩ : ∃ z : Nat, z = G.length := ⟨_, rfl⟩
              have hq41 := hf_programs.n0 (by first | decide | omega)
              have ne_a40_w_ : nq a40 w_ := by have hlt := hw_.lt; unfold nq; omega
              have ne_a40_f_spans : nq a40 f_spans := by have hlt := hf_spans.lt; unfold nq; omega
              have ne_a40_17 : nq a40 17 := by have hlt := h17.lt; unfold nq; omega
              have ne_a40_f_latest : nq a40 f_latest := by have hlt := hf_latest.lt; unfold nq; omega
              have ne_a40_f_programs : nq a40 f_programs := by have hlt := hf_programs.lt; unfold nq; omega
              have hw_ := hw_.akeep (k := 99) eG38
              rw [← eo39] at hw_
              have hf_spans := hf_spans.akeep (k := 99) eG38
              rw [← eo39] at hf_spans
              have h17 := h17.akeep (k := 99) eG38
              rw [← eo39] at h17
              have hf_latest := hf_latest.akeep (k := 99) eG38
              rw [← eo39] at hf_latest
              have hf_programs := hf_programs.akeep (k := 99) eG38
              rw [← eo39] at hf_programs
              have hst := (fx.rf (o := o) (S := []) (G := G)).ap (k := 99) eG38
              rw [← eo39] at hst
              have pthI_f_threads := thI.fr hst pthI_f_threads (by decide) (by decide) (by decide) (by decide) (by decide) (by decide) (by decide) (by decide)
              have pmkI_f_marks := mkI.fr hst pmkI_f_marks (by decide) (by decide) (by decide) (by decide)
              have pomI_f_oneMind := omI.fr hst pomI_f_oneMind (by decide) (by decide) (by decide) (by decide) (by decide) (by decide) (by decide) (by decide)
              have pstI_f_states := stI.fr hst pstI_f_states (by decide) (by decide) (by decide) (by decide) (by decide) (by decide) (by decide) (by decide) (by decide)
              have psuI_f_subject := suI.fr hst psuI_f_subject (by decide) (by decide) (by decide) (by decide) (by decide)
              have ppgI_0 := pgI.fr hst ppgI_0  (by simp)
              have ha40 := cc.anew (o := o) 99 eG38 hq41
              rw [← eo39, ← ea40] at ha40
              have hfr := hfr.ap (k := 99) eG38
              rw [← eo39] at hfr
              have hq42 := z_alen eG38
              have hq43 : ab_slots G38 = ab_slots G + 6 := z_asl eG38 hq41
              rw [← ea40, ← eG38]
              rw [hQ]; exact (Or.inl ⟨_, _, rfl, hfr, hw_, hf_spans, hf_latest, pthI_f_threads, pmkI_f_marks, pomI_f_oneMind, pstI_f_states, psuI_f_subject, ppgI_0, (by exact ha40.2.2), (by omega), (by omega)⟩)
            · refine ab_iload d_PW_match_45 rfl ?_
              obtain ⟨by_, co, re, ho, f, C, Rs, H, mc, hf_subject, hby_, hco, hre, hho, csu, hsu⟩ := psuI_f_subject
              refine ab_aload_n d_PW_match_47 rfl ?_
              refine ab_getf (fs := [vR f_ready, vR f_tape, vR f_reader, vR f_programs, vR f_subject, vR f_spans, vR f_threads, vR f_marks, vR f_oneMind, vR f_states, vR f_latest, vR f_matches, vR f_pieces, vR f_template, vR f_result, vR f_spare, vz cmp, vz ovs]) f_PW_38 d_PW_match_48 hw_.2.2 rfl ?_
              refine ab_getf (fs := [vR by_, vR co, vR re, vR ho, vz n]) f_PW_164 d_PW_match_51 hf_subject.2.2 rfl ?_
              refine zz_icmp_le (tgt := 67) d_PW_match_54 (by decide) (by omega) (by omega) (fun c44 => ?_) (fun c44 => ?_)
              · have psuI_f_subject : suI o G f_subject n m := ⟨by_, co, re, ho, f, C, Rs, H, mc, hf_subject, hby_, hco, hre, hho, (by omega), hsu⟩
                have hk_ := hkq.2 (by omega) (by omega)
                rw [← hk_] at hq7
                have hk6_ : k_ < 6 := by omega
                obtain ⟨⟨mi_, ppgB_b6⟩, ppgX_0⟩ := ppgI_0.opn hk6_ hq7
                refine ab_aload_n d_PW_match_67 rfl ?_
                refine ab_aload d_PW_match_68 rfl ?_
                refine ab_iload_n d_PW_match_70 rfl ?_
                refine ab_iload_n d_PW_match_71 rfl ?_
                refine ab_iload d_PW_match_72 rfl ?_
                refine ab_callV (d' := d - 1) (as := [vR b6, vz hw, vz mch, vz p]) (st := []) (r := _) (z_PW_run (o := o) (w_ := w_) (f_ready := f_ready) (f_tape := f_tape) (f_reader := f_reader) (f_programs := f_programs) (f_subject := f_subject) (f_spans := f_spans) (f_threads := f_threads) (f_marks := f_marks) (f_oneMind := f_oneMind) (f_states := f_states) (f_latest := f_latest) (f_matches := f_matches) (f_pieces := f_pieces) (f_template := f_template) (f_result := f_result) (f_spare := f_spare) (cmp := cmp) (ovs := ovs) (q := b6) (lq := (100 + 10 * k_)) (nr := (NR k_)) (cv := cv) (on := on) (mi := mi_) (nm := nm) (ns := ns) (nt := nt) (n := n) (m := m) (SP := SP) (hw := hw) (mch := mch) (p := p) hw_ hf_spans h17 pthI_f_threads pmkI_f_marks pomI_f_oneMind pstI_f_states psuI_f_subject ppgB_b6 (by omega) (by omega) jsp (by omega) (by omega) (by omega)) (fun oc G2 h => by rcases h with ⟨_, _, _, _, _, _, _, _, h, _⟩ <;> exact ⟨_, h⟩) (by omega) m_PW_run ml_PW_171 im_PW_run se_PW_run c_PW hw_.2.2 (Nat.le_of_ble_eq_true rfl) d_PW_match_74 rfl ?_
                intro v G45 hq
                rcases hq with ⟨o46, nm247, ns248, on249, nt250, mi251, SP252, r53, hv, hfk, hNf_spans, pNthI_f_threads, pNmkI_f_marks, pNomI_f_oneMind, pNstI_f_states, pNsuI_f_subject, pNpgB_b6, hq54, hq55, hq56, hq57, hq58⟩
                cases hv
                have hw_ := hfk.get hw_ (by simp only [List.mem_cons, List.not_mem_nil, or_false]; omega)
                have h17 := hfk.get h17 (by simp only [List.mem_cons, List.not_mem_nil, or_false]; omega)
                have hf_latest := hfk.get hf_latest (by simp only [List.mem_cons, List.not_mem_nil, or_false]; omega)
                have hf_programs := hfk.get hf_programs (by simp only [List.mem_cons, List.not_mem_nil, or_false]; omega)
                have ppgX_0 := pgX.fr hfk ppgX_0  (by intro xx hx; simp only [List.mem_cons, List.not_mem_nil, or_false] at hx; omega)
                have pthI_f_threads := pNthI_f_threads
                have pmkI_f_marks := pNmkI_f_marks
                have pomI_f_oneMind := pNomI_f_oneMind
                have pstI_f_states := pNstI_f_states
                have psuI_f_subject := pNsuI_f_subject
                have ppgB_b6 := pNpgB_b6
                have hfr := hfr.tr hfk (by simp)
                have hq59 := hfk.1
                have hf_spans := hNf_spans
                change ab_W _ _ _ G45 77 [some (vR w_), some (vz sl), some (vz hw), some (vz mch), some (vz p), some (vR b6), none] [vz r53] _
                have ppgX_0 := ppgX_0.ong hq58
                refine ab_istore d_PW_match_77 (Nat.le_of_ble_eq_true rfl) (Nat.le_of_ble_eq_true rfl) rfl ?_
                change ab_W _ _ _ G45 79 [some (vR w_), some (vz sl), some (vz hw), some (vz mch), some (vz p), some (vR b6), some (vz r53)] [] _
                obtain ⟨ki_g, ne_g, ot_g, cnt_g, fi_g, la_g, ra_g, ru_g, gr_g, wi_g, sz_g, fl_g, ve_g, na_g, nl_g, K_g, N_g, O_g, RR_g, NA_g, NL_g, hb6, hki_g, hne_g, hot_g, hra_g, hna_g, hnl_g, cq_g, hpu_g, hp_g, hr_g, hch_g, cru_g, ck9_g, cfi_g, cgr_g, cfl_g, hpo_g, hmi_g, hvc_g, cve_g, jnl_g⟩ := ppgB_b6
                refine ab_aload_n d_PW_match_79 rfl ?_
                refine ab_aload d_PW_match_80 rfl ?_
                refine ab_getf (fs := [vR ki_g, vR ne_g, vR ot_g, vz cnt_g, vz fi_g, vz la_g, vR ra_g, vz ru_g, vz gr_g, vz wi_g, vz sz_g, vz fl_g, vz ve_g, vz mi251, vR na_g, vR nl_g]) f_PW_152 d_PW_match_82 hb6.2.2 rfl ?_
                refine zz_iconst d_PW_match_85 ?_
                refine ab_callV (d' := d - 1) (as := [vz sz_g, vz 1]) (st := []) (r := _) (z_PW_settle (o := o46) (w_ := w_) (f_ready := f_ready) (f_tape := f_tape) (f_reader := f_reader) (f_programs := f_programs) (f_subject := f_subject) (f_spans := f_spans) (f_threads := f_threads) (f_marks := f_marks) (f_oneMind := f_oneMind) (f_states := f_states) (f_latest := f_latest) (f_matches := f_matches) (f_pieces := f_pieces) (f_template := f_template) (f_result := f_result) (f_spare := f_spare) (cmp := cmp) (ovs := ovs) (cv := cv) (on := on249) (nm := nm247) (ns := ns248) (nt := nt250) (n := n) (m := m) (z1 := sz_g) (z2 := 1) hw_ pthI_f_threads pmkI_f_marks pomI_f_oneMind pstI_f_states psuI_f_subject (by omega) (by omega) (by omega)) (fun oc G2 h => by rcases h with ⟨_, h, _⟩ <;> exact ⟨_, h⟩) (by omega) m_PW_settle ml_PW_175 im_PW_settle se_PW_settle c_PW hw_.2.2 (Nat.le_of_ble_eq_true rfl) d_PW_match_86 rfl ?_
                intro v G60 hq
                rcases hq with ⟨ov261, hv, hfk, hlk, hsk, hNw_, pNthI_f_threads, pNmkI_f_marks, pNomI_f_oneMind, pNstI_f_states, pNsuI_f_subject⟩
                cases hv
                have hf_spans := hfk.get hf_spans (by decide)
                have h17 := hfk.get h17 (by decide)
                have hf_latest := hfk.get hf_latest (by decide)
                have hf_programs := hfk.get hf_programs (by decide)
                have hb6 := hfk.get hb6 (by simp only [List.mem_cons, List.not_mem_nil, or_false]; omega)
                have hki_g := hfk.get hki_g (by simp only [List.mem_cons, List.not_mem_nil, or_false]; omega)
                have hne_g := hfk.get hne_g (by simp only [List.mem_cons, List.not_mem_nil, or_false]; omega)
                have hot_g := hfk.get hot_g (by simp only [List.mem_cons, List.not_mem_nil, or_false]; omega)
                have hra_g := hfk.get hra_g (by simp only [List.mem_cons, List.not_mem_nil, or_false]; omega)
                have hna_g := hfk.get hna_g (by simp only [List.mem_cons, List.not_mem_nil, or_false]; omega)
                have hnl_g := hfk.get hnl_g (by simp only [List.mem_cons, List.not_mem_nil, or_false]; omega)
                have ppgX_0 := pgX.fr hfk ppgX_0 (fun xx hx => Or.inl ((show ∀ y ∈ ([18, 32, 44, 50, 60] : List Nat), y < 100 by decide) xx hx))
                have pthI_f_threads := pNthI_f_threads
                have pmkI_f_marks := pNmkI_f_marks
                have pomI_f_oneMind := pNomI_f_oneMind
                have pstI_f_states := pNstI_f_states
                have psuI_f_subject := pNsuI_f_subject
                have hfr := hfr.tr hfk (by simp)
                have hq62 := hlk
                have hq63 := hsk
                have hw_ := hNw_
                change ab_W _ _ _ G60 89 [some (vR w_), some (vz sl), some (vz hw), some (vz mch), some (vz p), some (vR b6), some (vz r53)] [] _
                refine ab_aload_n d_PW_match_89 rfl ?_
                refine ab_getf (fs := [vR f_ready, vR f_tape, vR f_reader, vR f_programs, vR f_subject, vR f_spans, vR f_threads, vR f_marks, vR f_oneMind, vR f_states, vR f_latest, vR f_matches, vR f_pieces, vR f_template, vR f_result, vR f_spare, vz cmp, vz ov261]) f_PW_73 d_PW_match_90 hw_.2.2 rfl ?_
                refine zz_iconst d_PW_match_93 ?_
                refine ab_callS (d' := d - 1) (as := [vR f_latest, vz (-1)]) (st := []) (z_AR_fill (o := o46) (a := f_latest) (l := 70) (n := 20) (f := LA) (v := (-1)) hf_latest (by have h18 : ab_n0 = 18 := rfl; omega)) (fun oc G2 h => by rcases h with ⟨h, _⟩ <;> exact ⟨_, h⟩) (by omega) m_AR_fill ml_PW_91 st_AR_fill (Nat.le_of_ble_eq_true rfl) d_PW_match_94 rfl ?_
                intro v G64 hq
                rcases hq with ⟨hv, hfk, hlk, hsk, hNf_latest⟩
                cases hv
                have hw_ := hfk.get hw_ (by decide)
                have hf_spans := hfk.get hf_spans (by decide)
                have h17 := hfk.get h17 (by decide)
                have hf_programs := hfk.get hf_programs (by decide)
                have hb6 := hfk.get hb6 (by simp only [List.mem_cons, List.not_mem_nil, or_false]; omega)
                have hki_g := hfk.get hki_g (by simp only [List.mem_cons, List.not_mem_nil, or_false]; omega)
                have hne_g := hfk.get hne_g (by simp only [List.mem_cons, List.not_mem_nil, or_false]; omega)
                have hot_g := hfk.get hot_g (by simp only [List.mem_cons, List.not_mem_nil, or_false]; omega)
                have hra_g := hfk.get hra_g (by simp only [List.mem_cons, List.not_mem_nil, or_false]; omega)
                have hna_g := hfk.get hna_g (by simp only [List.mem_cons, List.not_mem_nil, or_false]; omega)
                have hnl_g := hfk.get hnl_g (by simp only [List.mem_cons, List.not_mem_nil, or_false]; omega)
                have pthI_f_threads := thI.fr hfk pthI_f_threads (by decide) (by decide) (by decide) (by decide) (by decide) (by decide) (by decide) (by decide)
                have pmkI_f_marks := mkI.fr hfk pmkI_f_marks (by decide) (by decide) (by decide) (by decide)
                have pomI_f_oneMind := omI.fr hfk pomI_f_oneMind (by decide) (by decide) (by decide) (by decide) (by decide) (by decide) (by decide) (by decide)
                have pstI_f_states := stI.fr hfk pstI_f_states (by decide) (by decide) (by decide) (by decide) (by decide) (by decide) (by decide) (by decide) (by decide)
                have psuI_f_subject := suI.fr hfk psuI_f_subject (by decide) (by decide) (by decide) (by decide) (by decide)
                have ppgX_0 := pgX.fr hfk ppgX_0 (fun xx hx => Or.inl ((show ∀ y ∈ ([70] : List Nat), y < 100 by decide) xx hx))
                have hfr := hfr.tr hfk (by simp)
                have hq65 := hlk
                have hq66 := hsk
                have hf_latest := hNf_latest
                change ab_W _ _ _ G64 97 [some (vR w_), some (vz sl), some (vz hw), some (vz mch), some (vz p), some (vR b6), some (vz r53)] [] _
                refine ab_iload d_PW_match_97 rfl ?_
                refine zz_iconst d_PW_match_99 ?_
                refine zz_icmp_eq (tgt := 121) d_PW_match_100 (by decide) (by omega) (by decide) (fun c67 => ?_) (fun c67 => ?_)
                · have hmq_ : onq mi251 on249 := hmi_g
                  have ppgB_b6 : pgB o46 G64 b6 (100 + 10 * k_) (NR k_) cv cmp on249 mi251 := ⟨ki_g, ne_g, ot_g, cnt_g, fi_g, la_g, ra_g, ru_g, gr_g, wi_g, sz_g, fl_g, ve_g, na_g, nl_g, K_g, N_g, O_g, RR_g, NA_g, NL_g, hb6, hki_g, hne_g, hot_g, hra_g, hna_g, hnl_g, (by omega), hpu_g, hp_g, hr_g, hch_g, (by omega), (by omega), (by omega), (by omega), (by omega), hpo_g, hmq_, (by omega), (by omega), jnl_g⟩
                  have ppgI_0 := ppgX_0.cls hq7 ppgB_b6
                  refine ab_iload d_PW_match_121 rfl ?_
                  refine zz_iret rfl d_PW_match_123 ?_
                  rw [hQ]; exact (Or.inr ⟨_, _, _, _, _, _, _, _, _, rfl, hfr, hw_, hf_spans, hf_latest, pthI_f_threads, pmkI_f_marks, pomI_f_oneMind, pstI_f_states, psuI_f_subject, ppgI_0, (by exact hq55), (by omega), (by omega), (by exact hq58)⟩)
                · refine ab_aload_n d_PW_match_103 rfl ?_
                  refine ab_getf (fs := [vR f_ready, vR f_tape, vR f_reader, vR f_programs, vR f_subject, vR f_spans, vR f_threads, vR f_marks, vR f_oneMind, vR f_states, vR f_latest, vR f_matches, vR f_pieces, vR f_template, vR f_result, vR f_spare, vz cmp, vz ov261]) f_PW_42 d_PW_match_104 hw_.2.2 rfl ?_
                  refine zz_iconst d_PW_match_107 ?_
                  refine ab_aload_n d_PW_match_108 rfl ?_
                  refine ab_getf (fs := [vR f_ready, vR f_tape, vR f_reader, vR f_programs, vR f_subject, vR f_spans, vR f_threads, vR f_marks, vR f_oneMind, vR f_states, vR f_latest, vR f_matches, vR f_pieces, vR f_template, vR f_result, vR f_spare, vz cmp, vz ov261]) f_PW_73 d_PW_match_109 hw_.2.2 rfl ?_
                  refine zz_iconst d_PW_match_112 ?_
                  refine ab_aload d_PW_match_113 rfl ?_
                  refine ab_getf (fs := [vR ki_g, vR ne_g, vR ot_g, vz cnt_g, vz fi_g, vz la_g, vR ra_g, vz ru_g, vz gr_g, vz wi_g, vz sz_g, vz fl_g, vz ve_g, vz mi251, vR na_g, vR nl_g]) f_PW_178 d_PW_match_115 hb6.2.2 rfl ?_
                  refine zz_copy mj_PW_181 d_PW_match_118 hf_spans hf_latest (hf_latest.2.1 (by decide)) (by omega) (Nat.le_of_ble_eq_true rfl) (by omega) ?_
                  obtain ⟨G68, eG68⟩ : ∃ z : ab_G, z = List.set G64 f_latest (za 20 (zcpy SP252 (zfill LA 0 ↑20 (-1)) 0 0 wi_g)) := ⟨_, rfl⟩
                  have hw_ := hw_.keep hf_latest eG68 (by decide)
                  have hf_spans := hf_spans.keep hf_latest eG68 (by decide)
                  have h17 := h17.keep hf_latest eG68 (by decide)
                  have hf_programs := hf_programs.keep hf_latest eG68 (by decide)
                  have hb6 := hb6.keep hf_latest eG68 (by omega)
                  have hki_g := hki_g.keep hf_latest eG68 (by omega)
                  have hne_g := hne_g.keep hf_latest eG68 (by omega)
                  have hot_g := hot_g.keep hf_latest eG68 (by omega)
                  have hra_g := hra_g.keep hf_latest eG68 (by omega)
                  have hna_g := hna_g.keep hf_latest eG68 (by omega)
                  have hnl_g := hnl_g.keep hf_latest eG68 (by omega)
                  have hst := (fx.rf (o := o46) (S := [70]) (G := G64)).wr hf_latest eG68 (List.mem_singleton.mpr rfl)
                  have pthI_f_threads := thI.fr hst pthI_f_threads (by decide) (by decide) (by decide) (by decide) (by decide) (by decide) (by decide) (by decide)
                  have pmkI_f_marks := mkI.fr hst pmkI_f_marks (by decide) (by decide) (by decide) (by decide)
                  have pomI_f_oneMind := omI.fr hst pomI_f_oneMind (by decide) (by decide) (by decide) (by decide) (by decide) (by decide) (by decide) (by decide)
                  have pstI_f_states := stI.fr hst pstI_f_states (by decide) (by decide) (by decide) (by decide) (by decide) (by decide) (by decide) (by decide) (by decide)
                  have psuI_f_subject := suI.fr hst psuI_f_subject (by decide) (by decide) (by decide) (by decide) (by decide)
                  have ppgX_0 := pgX.fr hst ppgX_0 (fun xx hx => Or.inl ((show ∀ y ∈ ([70] : List Nat), y < 100 by decide) xx hx))
                  have hq69 := z_len eG68
                  have hq70 := z_sl hf_latest eG68 rfl
                  have hfr := hfr.wr hf_latest eG68 (by simp)
                  have hf_latest := hf_latest.kept eG68
                  change ab_W _ _ _ (List.set G64 f_latest (za 20 (zcpy SP252 (zfill LA 0 ↑20 (-1)) 0 0 wi_g))) 121 [some (vR w_), some (vz sl), some (vz hw), some (vz mch), some (vz p), some (vR b6), some (vz r53)] [] _
                  rw [← eG68]
                  have hmq_ : onq mi251 on249 := hmi_g
                  have ppgB_b6 : pgB o46 G68 b6 (100 + 10 * k_) (NR k_) cv cmp on249 mi251 := ⟨ki_g, ne_g, ot_g, cnt_g, fi_g, la_g, ra_g, ru_g, gr_g, wi_g, sz_g, fl_g, ve_g, na_g, nl_g, K_g, N_g, O_g, RR_g, NA_g, NL_g, hb6, hki_g, hne_g, hot_g, hra_g, hna_g, hnl_g, (by omega), hpu_g, hp_g, hr_g, hch_g, (by omega), (by omega), (by omega), (by omega), (by omega), hpo_g, hmq_, (by omega), (by omega), jnl_g⟩
                  have ppgI_0 := ppgX_0.cls hq7 ppgB_b6
                  refine ab_iload d_PW_match_121 rfl ?_
                  refine zz_iret rfl d_PW_match_123 ?_
                  rw [hQ]; exact (Or.inr ⟨_, _, _, _, _, _, _, _, _, rfl, hfr, hw_, hf_spans, hf_latest, pthI_f_threads, pmkI_f_marks, pomI_f_oneMind, pstI_f_states, psuI_f_subject, ppgI_0, (by exact hq55), (by omega), (by omega), (by exact hq58)⟩)
              · have psuI_f_subject : suI o G f_subject n m := ⟨by_, co, re, ho, f, C, Rs, H, mc, hf_subject, hby_, hco, hre, hho, (by omega), hsu⟩
                refine ab_throw (tx := "no such place") (by decide) (fun c h => h) cl_PW_109 inst_IA ini_IA tw_PW_113 d_PW_match_57 d_PW_match_60 d_PW_match_61 d_PW_match_63 d_PW_match_66 (by omega) (by omega) (by omega) ?_
                obtain ⟨G71, eG71⟩ : ∃ z : ab_G, z = G ++ [.inr (13, [])] := ⟨_, rfl⟩
                obtain ⟨o72, eo72⟩ : ∃ z : Nat → Nat, z = ol o G.length 99 := ⟨_, rfl⟩
                obtain ⟨a73, ea73⟩ : ∃ z : Nat, z = G.length := ⟨_, rfl⟩
                have hq74 := hf_programs.n0 (by first | decide | omega)
                have ne_a73_w_ : nq a73 w_ := by have hlt := hw_.lt; unfold nq; omega
                have ne_a73_f_spans : nq a73 f_spans := by have hlt := hf_spans.lt; unfold nq; omega
                have ne_a73_17 : nq a73 17 := by have hlt := h17.lt; unfold nq; omega
                have ne_a73_f_latest : nq a73 f_latest := by have hlt := hf_latest.lt; unfold nq; omega
                have ne_a73_f_programs : nq a73 f_programs := by have hlt := hf_programs.lt; unfold nq; omega
                have hw_ := hw_.akeep (k := 99) eG71
                rw [← eo72] at hw_
                have hf_spans := hf_spans.akeep (k := 99) eG71
                rw [← eo72] at hf_spans
                have h17 := h17.akeep (k := 99) eG71
                rw [← eo72] at h17
                have hf_latest := hf_latest.akeep (k := 99) eG71
                rw [← eo72] at hf_latest
                have hf_programs := hf_programs.akeep (k := 99) eG71
                rw [← eo72] at hf_programs
                have hst := (fx.rf (o := o) (S := []) (G := G)).ap (k := 99) eG71
                rw [← eo72] at hst
                have pthI_f_threads := thI.fr hst pthI_f_threads (by decide) (by decide) (by decide) (by decide) (by decide) (by decide) (by decide) (by decide)
                have pmkI_f_marks := mkI.fr hst pmkI_f_marks (by decide) (by decide) (by decide) (by decide)
                have pomI_f_oneMind := omI.fr hst pomI_f_oneMind (by decide) (by decide) (by decide) (by decide) (by decide) (by decide) (by decide) (by decide)
                have pstI_f_states := stI.fr hst pstI_f_states (by decide) (by decide) (by decide) (by decide) (by decide) (by decide) (by decide) (by decide) (by decide)
                have ppgI_0 := pgI.fr hst ppgI_0  (by simp)
                have psuI_f_subject := suI.fr hst psuI_f_subject (by decide) (by decide) (by decide) (by decide) (by decide)
                have ha73 := cc.anew (o := o) 99 eG71 hq74
                rw [← eo72, ← ea73] at ha73
                have hfr := hfr.ap (k := 99) eG71
                rw [← eo72] at hfr
                have hq75 := z_alen eG71
                have hq76 : ab_slots G71 = ab_slots G + 6 := z_asl eG71 hq74
                rw [← ea73, ← eG71]
                rw [hQ]; exact (Or.inl ⟨_, _, rfl, hfr, hw_, hf_spans, hf_latest, pthI_f_threads, pmkI_f_marks, pomI_f_oneMind, pstI_f_states, psuI_f_subject, ppgI_0, (by exact ha73.2.2), (by omega), (by omega)⟩)
          · refine ab_throw (tx := "no pattern there, or no such how or machine") (by decide) (fun c h => h) cl_PW_109 inst_IA ini_IA tw_PW_113 d_PW_match_30 d_PW_match_33 d_PW_match_34 d_PW_match_36 d_PW_match_39 (by omega) (by omega) (by omega) ?_
            obtain ⟨G77, eG77⟩ : ∃ z : ab_G, z = G ++ [.inr (13, [])] := ⟨_, rfl⟩
            obtain ⟨o78, eo78⟩ : ∃ z : Nat → Nat, z = ol o G.length 99 := ⟨_, rfl⟩
            obtain ⟨a79, ea79⟩ : ∃ z : Nat, z = G.length := ⟨_, rfl⟩
            have hq80 := hf_programs.n0 (by first | decide | omega)
            have ne_a79_w_ : nq a79 w_ := by have hlt := hw_.lt; unfold nq; omega
            have ne_a79_f_spans : nq a79 f_spans := by have hlt := hf_spans.lt; unfold nq; omega
            have ne_a79_17 : nq a79 17 := by have hlt := h17.lt; unfold nq; omega
            have ne_a79_f_latest : nq a79 f_latest := by have hlt := hf_latest.lt; unfold nq; omega
            have ne_a79_f_programs : nq a79 f_programs := by have hlt := hf_programs.lt; unfold nq; omega
            have hw_ := hw_.akeep (k := 99) eG77
            rw [← eo78] at hw_
            have hf_spans := hf_spans.akeep (k := 99) eG77
            rw [← eo78] at hf_spans
            have h17 := h17.akeep (k := 99) eG77
            rw [← eo78] at h17
            have hf_latest := hf_latest.akeep (k := 99) eG77
            rw [← eo78] at hf_latest
            have hf_programs := hf_programs.akeep (k := 99) eG77
            rw [← eo78] at hf_programs
            have hst := (fx.rf (o := o) (S := []) (G := G)).ap (k := 99) eG77
            rw [← eo78] at hst
            have pthI_f_threads := thI.fr hst pthI_f_threads (by decide) (by decide) (by decide) (by decide) (by decide) (by decide) (by decide) (by decide)
            have pmkI_f_marks := mkI.fr hst pmkI_f_marks (by decide) (by decide) (by decide) (by decide)
            have pomI_f_oneMind := omI.fr hst pomI_f_oneMind (by decide) (by decide) (by decide) (by decide) (by decide) (by decide) (by decide) (by decide)
            have pstI_f_states := stI.fr hst pstI_f_states (by decide) (by decide) (by decide) (by decide) (by decide) (by decide) (by decide) (by decide) (by decide)
            have psuI_f_subject := suI.fr hst psuI_f_subject (by decide) (by decide) (by decide) (by decide) (by decide)
            have ppgI_0 := pgI.fr hst ppgI_0  (by simp)
            have ha79 := cc.anew (o := o) 99 eG77 hq80
            rw [← eo78, ← ea79] at ha79
            have hfr := hfr.ap (k := 99) eG77
            rw [← eo78] at hfr
            have hq81 := z_alen eG77
            have hq82 : ab_slots G77 = ab_slots G + 6 := z_asl eG77 hq80
            rw [← ea79, ← eG77]
            rw [hQ]; exact (Or.inl ⟨_, _, rfl, hfr, hw_, hf_spans, hf_latest, pthI_f_threads, pmkI_f_marks, pomI_f_oneMind, pstI_f_states, psuI_f_subject, ppgI_0, (by exact ha79.2.2), (by omega), (by omega)⟩)
set_option maxRecDepth 100000 in
set_option maxHeartbeats 4000000 in
theorem z_PW_hunt {X : ab_X} {d : Nat} {o : Nat → Nat} {G : ab_G} {w_ : Nat} {f_ready : Nat} {f_tape : Nat} {f_reader : Nat} {f_programs : Nat} {f_subject : Nat} {f_spans : Nat} {f_threads : Nat} {f_marks : Nat} {f_oneMind : Nat} {f_states : Nat} {f_latest : Nat} {f_matches : Nat} {f_pieces : Nat} {f_template : Nat} {f_result : Nat} {f_spare : Nat} {cmp : Int} {ovs : Int} {q : Nat} {lq : Nat} {ki : Nat} {ne : Nat} {ot : Nat} {cnt : Int} {fi : Int} {la : Int} {ra : Nat} {ru : Int} {gr : Int} {wi : Int} {sz : Int} {fl : Int} {ve : Int} {mi : Int} {K : Int → Int} {N : Int → Int} {O : Int → Int} {RR : Int → Int} {nr : Nat} {na : Nat} {nl : Nat} {nm : Nat} {ns : Nat} {n : Int} {m : Nat} {SP : Int → Int} {by_ : Nat} {co : Nat} {re : Nat} {ho : Nat} {f : Int → Int} {C : Int → Int} {Rs : Int → Int} {H : Int → Int} {mc : Nat} {bf : Int} (hw_ : cc o G w_ 18 (ab_ob 0 [vR f_ready, vR f_tape, vR f_reader, vR f_programs, vR f_subject, vR f_spans, vR f_threads, vR f_marks, vR f_oneMind, vR f_states, vR f_latest, vR f_matches, vR f_pieces, vR f_template, vR f_result, vR f_spare, vz cmp, vz ovs])) (hf_spans : cc o G f_spans 31 (za 20 SP)) (hq : cc o G q lq (ab_ob 5 [vR ki, vR ne, vR ot, vz cnt, vz fi, vz la, vR ra, vz ru, vz gr, vz wi, vz sz, vz fl, vz ve, vz mi, vR na, vR nl])) (hki : cc o G ki (lq + 1) (za 808 K)) (hne : cc o G ne (lq + 2) (za 808 N)) (hot : cc o G ot (lq + 3) (za 808 O)) (hra : cc o G ra (lq + 4) (za nr RR)) (hf_subject : cc o G f_subject 26 (ab_ob 9 [vR by_, vR co, vR re, vR ho, vz n])) (hco : cc o G co 28 (za mc C)) (hre : cc o G re 29 (za mc Rs)) (hho : cc o G ho 30 (za mc H)) (pmkB_f_marks : mkB o G f_marks q f_subject f_spans nm ns cnt n) (n18 : ab_n0 = 18) (cq : 100 ≤ lq ∧ 2 ≤ cnt ∧ cnt ≤ 808 ∧ ↑nr ≤ (100000 : Int)) (hp : prok K N O RR cnt ↑nr wi) (hr : ∀ k : Int, 0 ≤ k → k < ↑nr → 0 ≤ RR k ∧ RR k ≤ 1114111) (cfi : 0 ≤ fi ∧ fi < cnt) (cwi : 2 ≤ wi ∧ wi ≤ 20) (csu : 0 ≤ n ∧ n ≤ ↑m ∧ 32 ≤ m ∧ m ≤ 2000 ∧ mc = m + 1) (hsu : suok f C Rs H n) (jsp : rgs SP 20 (-1) 2000) (cbf : -1 ≤ bf ∧ bf ≤ n) (rc : G.length + 5 ≤ ab_n0 + room_1.cells + stC ns) (rs : ab_slots G + 1916393 ≤ room_1.slots + stT ns) (hd : 10 ≤ d) : ab_F X d y_PW_hunt (.code y_PW_hunt b_PW_hunt 3 (some (.boolean))) [vR w_, vz bf] G (fun oc G2 => (∃ o2 : Nat → Nat, ∃ ns2 : Nat, ∃ SP2 : Int → Int, oc = .returned (some (vz 0)) ∧ fx o o2 [31, 44, 45, 46, 47] G G2 ∧ cc o2 G2 f_spans 31 (za 20 SP2) ∧ mkB o2 G2 f_marks q f_subject f_spans nm ns2 cnt n ∧ (rgs SP2 20 (-1) 2000) ∧ (G2.length + stC ns = G.length + stC ns2) ∧ (ab_slots G2 + stT ns = ab_slots G + stT ns2)) ∨ (∃ o2 : Nat → Nat, ∃ ns2 : Nat, ∃ SP2 : Int → Int, oc = .returned (some (vz 1)) ∧ fx o o2 [31, 44, 45, 46, 47] G G2 ∧ cc o2 G2 f_spans 31 (za 20 SP2) ∧ mkB o2 G2 f_marks q f_subject f_spans nm ns2 cnt n ∧ (rgs SP2 20 (-1) 2000) ∧ (G2.length + stC ns = G.length + stC ns2) ∧ (ab_slots G2 + stT ns = ab_slots G + stT ns2) ∧ (rgs SP2 wi (-1) n) ∧ (0 ≤ SP2 0 ∧ SP2 1 ≤ n ∧ 0 ≤ SP2 1))) := by
  refine ab_F_of (by decide +kernel) (Nat.le_of_ble_eq_true rfl) ?_
  obtain ⟨Q, hQ⟩ : ∃ z : Outcome → ab_G → Prop, z = (fun oc G2 => (∃ o2 : Nat → Nat, ∃ ns2 : Nat, ∃ SP2 : Int → Int, oc = .returned (some (vz 0)) ∧ fx o o2 [31, 44, 45, 46, 47] G G2 ∧ cc o2 G2 f_spans 31 (za 20 SP2) ∧ mkB o2 G2 f_marks q f_subject f_spans nm ns2 cnt n ∧ (rgs SP2 20 (-1) 2000) ∧ (G2.length + stC ns = G.length + stC ns2) ∧ (ab_slots G2 + stT ns = ab_slots G + stT ns2)) ∨ (∃ o2 : Nat → Nat, ∃ ns2 : Nat, ∃ SP2 : Int → Int, oc = .returned (some (vz 1)) ∧ fx o o2 [31, 44, 45, 46, 47] G G2 ∧ cc o2 G2 f_spans 31 (za 20 SP2) ∧ mkB o2 G2 f_marks q f_subject f_spans nm ns2 cnt n ∧ (rgs SP2 20 (-1) 2000) ∧ (G2.length + stC ns = G.length + stC ns2) ∧ (ab_slots G2 + stT ns = ab_slots G + stT ns2) ∧ (rgs SP2 wi (-1) n) ∧ (0 ≤ SP2 0 ∧ SP2 1 ≤ n ∧ 0 ≤ SP2 1))) := ⟨_, rfl⟩
  rw [← hQ]
  change ab_W X (ab_pl y_PW_hunt b_PW_hunt 3 (some (.boolean))) d G 0 [some (vR w_), some (vz bf), none] [] Q
  have hfr : fx o o [31, 44, 45, 46, 47] G G := fx.rf
  refine ab_aload_n d_PW_hunt_0 rfl ?_
  refine ab_getf (fs := [vR f_ready, vR f_tape, vR f_reader, vR f_programs, vR f_subject, vR f_spans, vR f_threads, vR f_marks, vR f_oneMind, vR f_states, vR f_latest, vR f_matches, vR f_pieces, vR f_template, vR f_result, vR f_spare, vz cmp, vz ovs]) f_PW_55 d_PW_hunt_1 hw_.2.2 rfl ?_
  refine ab_iload_n d_PW_hunt_4 rfl ?_
  refine zz_iconst d_PW_hunt_5 ?_
  refine zz_mmax2 mj_PW_213 d_PW_hunt_6 (by omega) (by decide) (Nat.le_of_ble_eq_true rfl) (by omega) (fun c1 => ?_) (fun c1 => ?_)
  · obtain ⟨wk_k, mk_k, stk_k, w_k, df_k, dp_k, fo_k, fy_k, hw_k, stp_k, WK_k, M_k, SK_k, hf_marks, hwk_k, hmk_k, hstk_k, cn_k, hst_k, cf_k, cw_k, cm_k, cd_k⟩ := pmkB_f_marks
    refine ab_callV (d' := d - 1) (as := [vz 0]) (st := []) (r := _) (z_MK_find (o := o) (q := q) (lq := lq) (ki := ki) (ne := ne) (ot := ot) (cnt := cnt) (fi := fi) (la := la) (ra := ra) (ru := ru) (gr := gr) (wi := wi) (sz := sz) (fl := fl) (ve := ve) (mi := mi) (na := na) (nl := nl) (K := K) (N := N) (O := O) (RR := RR) (nr := nr) (s := f_subject) (by_ := by_) (co := co) (re := re) (ho := ho) (n := n) (C := C) (Rs := Rs) (H := H) (mc := mc) (a := f_marks) (sp := f_spans) (wk := wk_k) (mk := mk_k) (stk := stk_k) (w := w_k) (df := df_k) (dp := dp_k) (fo := fo_k) (fy := fy_k) (hw := hw_k) (stp := stp_k) (SP := SP) (WK := WK_k) (M := M_k) (SK := SK_k) (nm := nm) (ns := ns) (p := 0) hf_marks hf_spans hwk_k hmk_k hstk_k hq hki hne hot hra hf_subject hco hre hho (by omega) hp hr (by omega) hsu (by omega) (by omega) (by omega) (by omega) (by omega) (by omega) hst_k (by omega) (by omega) jsp (by omega) (by omega) (by omega)) (fun oc G2 h => by rcases h with ⟨_, _, _, _, _, _, _, _, _, _, _, h, _⟩ | ⟨_, _, _, _, _, _, _, _, _, _, _, _, h, _⟩ <;> exact ⟨_, h⟩) (by omega) m_MK_find ml_PW_251 im_MK_find se_MK_find c_MK hf_marks.2.2 (Nat.le_of_ble_eq_true rfl) d_PW_hunt_9 rfl ?_
    intro v G2 hq
    rcases hq with ⟨o3, df24, dp25, fo26, st27, sk28, ns29, WK210, M211, SK212, SP213, hv, hfk, hNf_marks, hNf_spans, hNwk_k, hNmk_k, hNsk28, hq14, hq15, hq16, hq17, hq18, hq19, hq20⟩ | ⟨o21, df222, dp223, fo224, st225, sk226, ns227, WK228, M229, SK230, SP231, r32, hv, hfk, hNf_marks, hNf_spans, hNwk_k, hNmk_k, hNsk226, hq33, hq34, hq35, hq36, hq37, hq38, hq39, hq40, hq41, hq42, hq43⟩
    · cases hv
      have hw_ := hfk.get hw_ (by decide)
      have hq := hfk.get hq (by simp only [List.mem_cons, List.not_mem_nil, or_false]; omega)
      have hki := hfk.get hki (by simp only [List.mem_cons, List.not_mem_nil, or_false]; omega)
      have hne := hfk.get hne (by simp only [List.mem_cons, List.not_mem_nil, or_false]; omega)
      have hot := hfk.get hot (by simp only [List.mem_cons, List.not_mem_nil, or_false]; omega)
      have hra := hfk.get hra (by simp only [List.mem_cons, List.not_mem_nil, or_false]; omega)
      have hf_subject := hfk.get hf_subject (by decide)
      have hco := hfk.get hco (by decide)
      have hre := hfk.get hre (by decide)
      have hho := hfk.get hho (by decide)
      have hfr := hfr.tr hfk (by decide)
      have hq44 := hfk.1
      have hf_marks := hNf_marks
      have hf_spans := hNf_spans
      have hwk_k := hNwk_k
      have hmk_k := hNmk_k
      have hsk28 := hNsk28
      change ab_W _ _ _ G2 12 [some (vR w_), some (vz bf), none] [vz (-1)] _
      refine ab_istore_n d_PW_hunt_12 (Nat.le_of_ble_eq_true rfl) (Nat.le_of_ble_eq_true rfl) rfl ?_
      change ab_W _ _ _ G2 13 [some (vR w_), some (vz bf), some (vz (-1))] [] _
      refine ab_iload_n d_PW_hunt_13 rfl ?_
      refine zz_iconst d_PW_hunt_14 ?_
      refine zz_icmp_eq (tgt := 59) d_PW_hunt_15 (by decide) (by decide) (by decide) (fun c46 => ?_) (fun c46 => absurd c46 (by decide))
      refine ab_iload_n d_PW_hunt_59 rfl ?_
      refine zz_iconst d_PW_hunt_60 ?_
      refine zz_icmp_eq (tgt := 68) d_PW_hunt_61 (by decide) (by decide) (by decide) (fun c47 => ?_) (fun c47 => absurd c47 (by decide))
      refine zz_iconst d_PW_hunt_68 ?_
      have pmkB_f_marks : mkB o3 G2 f_marks q f_subject f_spans nm ns29 cnt n := ⟨wk_k, mk_k, sk28, w_k, df24, dp25, fo26, fy_k, hw_k, st27, WK210, M211, SK212, hf_marks, hwk_k, hmk_k, hsk28, (by omega), hq15, (by omega), (by omega), (by omega), (by omega)⟩
      refine zz_bret rfl (by decide) d_PW_hunt_69 ?_
      rw [hQ]; exact (Or.inl ⟨_, _, _, rfl, hfr, hf_spans, pmkB_f_marks, (by exact hq17), (by omega), (by omega)⟩)
    · cases hv
      have hw_ := hfk.get hw_ (by decide)
      have hq := hfk.get hq (by simp only [List.mem_cons, List.not_mem_nil, or_false]; omega)
      have hki := hfk.get hki (by simp only [List.mem_cons, List.not_mem_nil, or_false]; omega)
      have hne := hfk.get hne (by simp only [List.mem_cons, List.not_mem_nil, or_false]; omega)
      have hot := hfk.get hot (by simp only [List.mem_cons, List.not_mem_nil, or_false]; omega)
      have hra := hfk.get hra (by simp only [List.mem_cons, List.not_mem_nil, or_false]; omega)
      have hf_subject := hfk.get hf_subject (by decide)
      have hco := hfk.get hco (by decide)
      have hre := hfk.get hre (by decide)
      have hho := hfk.get hho (by decide)
      have hfr := hfr.tr hfk (by decide)
      have hq45 := hfk.1
      have hf_marks := hNf_marks
      have hf_spans := hNf_spans
      have hwk_k := hNwk_k
      have hmk_k := hNmk_k
      have hsk226 := hNsk226
      change ab_W _ _ _ G2 12 [some (vR w_), some (vz bf), none] [vz r32] _
      refine ab_istore_n d_PW_hunt_12 (Nat.le_of_ble_eq_true rfl) (Nat.le_of_ble_eq_true rfl) rfl ?_
      change ab_W _ _ _ G2 13 [some (vR w_), some (vz bf), some (vz r32)] [] _
      refine ab_iload_n d_PW_hunt_13 rfl ?_
      refine zz_iconst d_PW_hunt_14 ?_
      refine zz_icmp_eq (tgt := 59) d_PW_hunt_15 (by decide) (by omega) (by decide) (fun c48 => absurd c48 (by omega)) (fun c48 => ?_)
      refine ab_iload_n d_PW_hunt_18 rfl ?_
      refine ab_iload_n d_PW_hunt_19 rfl ?_
      refine zz_icmp_ne (tgt := 59) d_PW_hunt_20 (by decide) (by omega) (by omega) (fun c49 => ?_) (fun c49 => ?_)
      · refine ab_iload_n d_PW_hunt_59 rfl ?_
        refine zz_iconst d_PW_hunt_60 ?_
        refine zz_icmp_eq (tgt := 68) d_PW_hunt_61 (by decide) (by omega) (by decide) (fun c50 => absurd c50 (by omega)) (fun c50 => ?_)
        refine zz_iconst d_PW_hunt_64 ?_
        refine ab_goto (tgt := 69) d_PW_hunt_65 (by decide) ?_
        have pmkB_f_marks : mkB o21 G2 f_marks q f_subject f_spans nm ns227 cnt n := ⟨wk_k, mk_k, sk226, w_k, df222, dp223, fo224, fy_k, hw_k, st225, WK228, M229, SK230, hf_marks, hwk_k, hmk_k, hsk226, (by omega), hq34, (by omega), (by omega), (by omega), (by omega)⟩
        refine zz_bret rfl (by decide) d_PW_hunt_69 ?_
        rw [hQ]; exact (Or.inr ⟨_, _, _, rfl, hfr, hf_spans, pmkB_f_marks, (by exact hq36), (by omega), (by omega), (by exact hq42), (by have t1 := hq42 1 (by omega) (by omega); have t2 := hq43; omega)⟩)
      · have hs0_ := hq36 0 (by omega) (by omega)
        refine ab_aload_n d_PW_hunt_23 rfl ?_
        refine ab_getf (fs := [vR f_ready, vR f_tape, vR f_reader, vR f_programs, vR f_subject, vR f_spans, vR f_threads, vR f_marks, vR f_oneMind, vR f_states, vR f_latest, vR f_matches, vR f_pieces, vR f_template, vR f_result, vR f_spare, vz cmp, vz ovs]) f_PW_42 d_PW_hunt_24 hw_.2.2 rfl ?_
        refine zz_iconst d_PW_hunt_27 ?_
        refine zz_iald d_PW_hunt_28 hf_spans (by omega) ?_
        refine ab_iload_n d_PW_hunt_29 rfl ?_
        refine zz_icmp_ne (tgt := 59) d_PW_hunt_30 (by decide) (by omega) (by omega) (fun c51 => ?_) (fun c51 => ?_)
        · refine ab_iload_n d_PW_hunt_59 rfl ?_
          refine zz_iconst d_PW_hunt_60 ?_
          refine zz_icmp_eq (tgt := 68) d_PW_hunt_61 (by decide) (by omega) (by decide) (fun c52 => absurd c52 (by omega)) (fun c52 => ?_)
          refine zz_iconst d_PW_hunt_64 ?_
          refine ab_goto (tgt := 69) d_PW_hunt_65 (by decide) ?_
          have pmkB_f_marks : mkB o21 G2 f_marks q f_subject f_spans nm ns227 cnt n := ⟨wk_k, mk_k, sk226, w_k, df222, dp223, fo224, fy_k, hw_k, st225, WK228, M229, SK230, hf_marks, hwk_k, hmk_k, hsk226, (by omega), hq34, (by omega), (by omega), (by omega), (by omega)⟩
          refine zz_bret rfl (by decide) d_PW_hunt_69 ?_
          rw [hQ]; exact (Or.inr ⟨_, _, _, rfl, hfr, hf_spans, pmkB_f_marks, (by exact hq36), (by omega), (by omega), (by exact hq42), (by have t1 := hq42 1 (by omega) (by omega); have t2 := hq43; omega)⟩)
        · refine ab_iload_n d_PW_hunt_33 rfl ?_
          refine ab_aload_n d_PW_hunt_34 rfl ?_
          refine ab_getf (fs := [vR f_ready, vR f_tape, vR f_reader, vR f_programs, vR f_subject, vR f_spans, vR f_threads, vR f_marks, vR f_oneMind, vR f_states, vR f_latest, vR f_matches, vR f_pieces, vR f_template, vR f_result, vR f_spare, vz cmp, vz ovs]) f_PW_38 d_PW_hunt_35 hw_.2.2 rfl ?_
          refine ab_getf (fs := [vR by_, vR co, vR re, vR ho, vz n]) f_PW_164 d_PW_hunt_38 hf_subject.2.2 rfl ?_
          refine zz_icmp_ge (tgt := 57) d_PW_hunt_41 (by decide) (by omega) (by omega) (fun c53 => ?_) (fun c53 => ?_)
          · refine zz_iconst d_PW_hunt_57 ?_
            refine ab_istore_n d_PW_hunt_58 (Nat.le_of_ble_eq_true rfl) (Nat.le_of_ble_eq_true rfl) rfl ?_
            change ab_W _ _ _ G2 59 [some (vR w_), some (vz bf), some (vz (-1))] [] _
            refine ab_iload_n d_PW_hunt_59 rfl ?_
            refine zz_iconst d_PW_hunt_60 ?_
            refine zz_icmp_eq (tgt := 68) d_PW_hunt_61 (by decide) (by decide) (by decide) (fun c54 => ?_) (fun c54 => absurd c54 (by decide))
            refine zz_iconst d_PW_hunt_68 ?_
            have pmkB_f_marks : mkB o21 G2 f_marks q f_subject f_spans nm ns227 cnt n := ⟨wk_k, mk_k, sk226, w_k, df222, dp223, fo224, fy_k, hw_k, st225, WK228, M229, SK230, hf_marks, hwk_k, hmk_k, hsk226, (by omega), hq34, (by omega), (by omega), (by omega), (by omega)⟩
            refine zz_bret rfl (by decide) d_PW_hunt_69 ?_
            rw [hQ]; exact (Or.inl ⟨_, _, _, rfl, hfr, hf_spans, pmkB_f_marks, (by exact hq36), (by omega), (by omega)⟩)
          · refine ab_aload_n d_PW_hunt_44 rfl ?_
            refine ab_getf (fs := [vR f_ready, vR f_tape, vR f_reader, vR f_programs, vR f_subject, vR f_spans, vR f_threads, vR f_marks, vR f_oneMind, vR f_states, vR f_latest, vR f_matches, vR f_pieces, vR f_template, vR f_result, vR f_spare, vz cmp, vz ovs]) f_PW_55 d_PW_hunt_45 hw_.2.2 rfl ?_
            refine ab_iload_n d_PW_hunt_48 rfl ?_
            refine zz_iconst d_PW_hunt_49 ?_
            refine zz_iadd d_PW_hunt_50 ?_
            refine ab_callV (d' := d - 1) (as := [vz (bf + 1)]) (st := []) (r := _) (z_MK_find (o := o21) (q := q) (lq := lq) (ki := ki) (ne := ne) (ot := ot) (cnt := cnt) (fi := fi) (la := la) (ra := ra) (ru := ru) (gr := gr) (wi := wi) (sz := sz) (fl := fl) (ve := ve) (mi := mi) (na := na) (nl := nl) (K := K) (N := N) (O := O) (RR := RR) (nr := nr) (s := f_subject) (by_ := by_) (co := co) (re := re) (ho := ho) (n := n) (C := C) (Rs := Rs) (H := H) (mc := mc) (a := f_marks) (sp := f_spans) (wk := wk_k) (mk := mk_k) (stk := sk226) (w := w_k) (df := df222) (dp := dp223) (fo := fo224) (fy := fy_k) (hw := hw_k) (stp := st225) (SP := SP231) (WK := WK228) (M := M229) (SK := SK230) (nm := nm) (ns := ns227) (p := (bf + 1)) hf_marks hf_spans hwk_k hmk_k hsk226 hq hki hne hot hra hf_subject hco hre hho (by omega) hp hr (by omega) hsu (by omega) (by omega) (by omega) (by omega) (by omega) (by omega) hq34 (by omega) (by omega) hq36 (by omega) (by omega) (by omega)) (fun oc G2 h => by rcases h with ⟨_, _, _, _, _, _, _, _, _, _, _, h, _⟩ | ⟨_, _, _, _, _, _, _, _, _, _, _, _, h, _⟩ <;> exact ⟨_, h⟩) (by omega) m_MK_find ml_PW_251 im_MK_find se_MK_find c_MK hf_marks.2.2 (Nat.le_of_ble_eq_true rfl) d_PW_hunt_51 rfl ?_
            intro v G55 hq
            rcases hq with ⟨o56, df257, dp258, fo259, st260, sk261, ns262, WK263, M264, SK265, SP266, hv, hfk, hNf_marks, hNf_spans, hNwk_k, hNmk_k, hNsk261, hq67, hq68, hq69, hq70, hq71, hq72, hq73⟩ | ⟨o74, df275, dp276, fo277, st278, sk279, ns280, WK281, M282, SK283, SP284, r85, hv, hfk, hNf_marks, hNf_spans, hNwk_k, hNmk_k, hNsk279, hq86, hq87, hq88, hq89, hq90, hq91, hq92, hq93, hq94, hq95, hq96⟩
            · cases hv
              have hw_ := hfk.get hw_ (by decide)
              have hq := hfk.get hq (by simp only [List.mem_cons, List.not_mem_nil, or_false]; omega)
              have hki := hfk.get hki (by simp only [List.mem_cons, List.not_mem_nil, or_false]; omega)
              have hne := hfk.get hne (by simp only [List.mem_cons, List.not_mem_nil, or_false]; omega)
              have hot := hfk.get hot (by simp only [List.mem_cons, List.not_mem_nil, or_false]; omega)
              have hra := hfk.get hra (by simp only [List.mem_cons, List.not_mem_nil, or_false]; omega)
              have hf_subject := hfk.get hf_subject (by decide)
              have hco := hfk.get hco (by decide)
              have hre := hfk.get hre (by decide)
              have hho := hfk.get hho (by decide)
              have hfr := hfr.tr hfk (by decide)
              have hq97 := hfk.1
              have hf_marks := hNf_marks
              have hf_spans := hNf_spans
              have hwk_k := hNwk_k
              have hmk_k := hNmk_k
              have hsk261 := hNsk261
              change ab_W _ _ _ G55 54 [some (vR w_), some (vz bf), some (vz r32)] [vz (-1)] _
              refine ab_goto (tgt := 58) d_PW_hunt_54 (by decide) ?_
              refine ab_istore_n d_PW_hunt_58 (Nat.le_of_ble_eq_true rfl) (Nat.le_of_ble_eq_true rfl) rfl ?_
              change ab_W _ _ _ G55 59 [some (vR w_), some (vz bf), some (vz (-1))] [] _
              refine ab_iload_n d_PW_hunt_59 rfl ?_
              refine zz_iconst d_PW_hunt_60 ?_
              refine zz_icmp_eq (tgt := 68) d_PW_hunt_61 (by decide) (by decide) (by decide) (fun c99 => ?_) (fun c99 => absurd c99 (by decide))
              refine zz_iconst d_PW_hunt_68 ?_
              have pmkB_f_marks : mkB o56 G55 f_marks q f_subject f_spans nm ns262 cnt n := ⟨wk_k, mk_k, sk261, w_k, df257, dp258, fo259, fy_k, hw_k, st260, WK263, M264, SK265, hf_marks, hwk_k, hmk_k, hsk261, (by omega), hq68, (by omega), (by omega), (by omega), (by omega)⟩
              refine zz_bret rfl (by decide) d_PW_hunt_69 ?_
              rw [hQ]; exact (Or.inl ⟨_, _, _, rfl, hfr, hf_spans, pmkB_f_marks, (by exact hq70), (by omega), (by omega)⟩)
            · cases hv
              have hw_ := hfk.get hw_ (by decide)
              have hq := hfk.get hq (by simp only [List.mem_cons, List.not_mem_nil, or_false]; omega)
              have hki := hfk.get hki (by simp only [List.mem_cons, List.not_mem_nil, or_false]; omega)
              have hne := hfk.get hne (by simp only [List.mem_cons, List.not_mem_nil, or_false]; omega)
              have hot := hfk.get hot (by simp only [List.mem_cons, List.not_mem_nil, or_false]; omega)
              have hra := hfk.get hra (by simp only [List.mem_cons, List.not_mem_nil, or_false]; omega)
              have hf_subject := hfk.get hf_subject (by decide)
              have hco := hfk.get hco (by decide)
              have hre := hfk.get hre (by decide)
              have hho := hfk.get hho (by decide)
              have hfr := hfr.tr hfk (by decide)
              have hq98 := hfk.1
              have hf_marks := hNf_marks
              have hf_spans := hNf_spans
              have hwk_k := hNwk_k
              have hmk_k := hNmk_k
              have hsk279 := hNsk279
              change ab_W _ _ _ G55 54 [some (vR w_), some (vz bf), some (vz r32)] [vz r85] _
              refine ab_goto (tgt := 58) d_PW_hunt_54 (by decide) ?_
              refine ab_istore_n d_PW_hunt_58 (Nat.le_of_ble_eq_true rfl) (Nat.le_of_ble_eq_true rfl) rfl ?_
              change ab_W _ _ _ G55 59 [some (vR w_), some (vz bf), some (vz r85)] [] _
              refine ab_iload_n d_PW_hunt_59 rfl ?_
              refine zz_iconst d_PW_hunt_60 ?_
              refine zz_icmp_eq (tgt := 68) d_PW_hunt_61 (by decide) (by omega) (by decide) (fun c100 => absurd c100 (by omega)) (fun c100 => ?_)
              refine zz_iconst d_PW_hunt_64 ?_
              refine ab_goto (tgt := 69) d_PW_hunt_65 (by decide) ?_
              have pmkB_f_marks : mkB o74 G55 f_marks q f_subject f_spans nm ns280 cnt n := ⟨wk_k, mk_k, sk279, w_k, df275, dp276, fo277, fy_k, hw_k, st278, WK281, M282, SK283, hf_marks, hwk_k, hmk_k, hsk279, (by omega), hq87, (by omega), (by omega), (by omega), (by omega)⟩
              refine zz_bret rfl (by decide) d_PW_hunt_69 ?_
              rw [hQ]; exact (Or.inr ⟨_, _, _, rfl, hfr, hf_spans, pmkB_f_marks, (by exact hq89), (by omega), (by omega), (by exact hq95), (by have t1 := hq95 1 (by omega) (by omega); have t2 := hq96; omega)⟩)
  · obtain ⟨wk_k, mk_k, stk_k, w_k, df_k, dp_k, fo_k, fy_k, hw_k, stp_k, WK_k, M_k, SK_k, hf_marks, hwk_k, hmk_k, hstk_k, cn_k, hst_k, cf_k, cw_k, cm_k, cd_k⟩ := pmkB_f_marks
    refine ab_callV (d' := d - 1) (as := [vz bf]) (st := []) (r := _) (z_MK_find (o := o) (q := q) (lq := lq) (ki := ki) (ne := ne) (ot := ot) (cnt := cnt) (fi := fi) (la := la) (ra := ra) (ru := ru) (gr := gr) (wi := wi) (sz := sz) (fl := fl) (ve := ve) (mi := mi) (na := na) (nl := nl) (K := K) (N := N) (O := O) (RR := RR) (nr := nr) (s := f_subject) (by_ := by_) (co := co) (re := re) (ho := ho) (n := n) (C := C) (Rs := Rs) (H := H) (mc := mc) (a := f_marks) (sp := f_spans) (wk := wk_k) (mk := mk_k) (stk := stk_k) (w := w_k) (df := df_k) (dp := dp_k) (fo := fo_k) (fy := fy_k) (hw := hw_k) (stp := stp_k) (SP := SP) (WK := WK_k) (M := M_k) (SK := SK_k) (nm := nm) (ns := ns) (p := bf) hf_marks hf_spans hwk_k hmk_k hstk_k hq hki hne hot hra hf_subject hco hre hho (by omega) hp hr (by omega) hsu (by omega) (by omega) (by omega) (by omega) (by omega) (by omega) hst_k (by omega) (by omega) jsp (by omega) (by omega) (by omega)) (fun oc G2 h => by rcases h with ⟨_, _, _, _, _, _, _, _, _, _, _, h, _⟩ | ⟨_, _, _, _, _, _, _, _, _, _, _, _, h, _⟩ <;> exact ⟨_, h⟩) (by omega) m_MK_find ml_PW_251 im_MK_find se_MK_find c_MK hf_marks.2.2 (Nat.le_of_ble_eq_true rfl) d_PW_hunt_9 rfl ?_
    intro v G101 hq
    rcases hq with ⟨o102, df2103, dp2104, fo2105, st2106, sk2107, ns2108, WK2109, M2110, SK2111, SP2112, hv, hfk, hNf_marks, hNf_spans, hNwk_k, hNmk_k, hNsk2107, hq113, hq114, hq115, hq116, hq117, hq118, hq119⟩ | ⟨o120, df2121, dp2122, fo2123, st2124, sk2125, ns2126, WK2127, M2128, SK2129, SP2130, r131, hv, hfk, hNf_marks, hNf_spans, hNwk_k, hNmk_k, hNsk2125, hq132, hq133, hq134, hq135, hq136, hq137, hq138, hq139, hq140, hq141, hq142⟩
    · cases hv
      have hw_ := hfk.get hw_ (by decide)
      have hq := hfk.get hq (by simp only [List.mem_cons, List.not_mem_nil, or_false]; omega)
      have hki := hfk.get hki (by simp only [List.mem_cons, List.not_mem_nil, or_false]; omega)
      have hne := hfk.get hne (by simp only [List.mem_cons, List.not_mem_nil, or_false]; omega)
      have hot := hfk.get hot (by simp only [List.mem_cons, List.not_mem_nil, or_false]; omega)
      have hra := hfk.get hra (by simp only [List.mem_cons, List.not_mem_nil, or_false]; omega)
      have hf_subject := hfk.get hf_subject (by decide)
      have hco := hfk.get hco (by decide)
      have hre := hfk.get hre (by decide)
      have hho := hfk.get hho (by decide)
      have hfr := hfr.tr hfk (by decide)
      have hq143 := hfk.1
      have hf_marks := hNf_marks
      have hf_spans := hNf_spans
      have hwk_k := hNwk_k
      have hmk_k := hNmk_k
      have hsk2107 := hNsk2107
      change ab_W _ _ _ G101 12 [some (vR w_), some (vz bf), none] [vz (-1)] _
      refine ab_istore_n d_PW_hunt_12 (Nat.le_of_ble_eq_true rfl) (Nat.le_of_ble_eq_true rfl) rfl ?_
      change ab_W _ _ _ G101 13 [some (vR w_), some (vz bf), some (vz (-1))] [] _
      refine ab_iload_n d_PW_hunt_13 rfl ?_
      refine zz_iconst d_PW_hunt_14 ?_
      refine zz_icmp_eq (tgt := 59) d_PW_hunt_15 (by decide) (by decide) (by decide) (fun c145 => ?_) (fun c145 => absurd c145 (by decide))
      refine ab_iload_n d_PW_hunt_59 rfl ?_
      refine zz_iconst d_PW_hunt_60 ?_
      refine zz_icmp_eq (tgt := 68) d_PW_hunt_61 (by decide) (by decide) (by decide) (fun c146 => ?_) (fun c146 => absurd c146 (by decide))
      refine zz_iconst d_PW_hunt_68 ?_
      have pmkB_f_marks : mkB o102 G101 f_marks q f_subject f_spans nm ns2108 cnt n := ⟨wk_k, mk_k, sk2107, w_k, df2103, dp2104, fo2105, fy_k, hw_k, st2106, WK2109, M2110, SK2111, hf_marks, hwk_k, hmk_k, hsk2107, (by omega), hq114, (by omega), (by omega), (by omega), (by omega)⟩
      refine zz_bret rfl (by decide) d_PW_hunt_69 ?_
      rw [hQ]; exact (Or.inl ⟨_, _, _, rfl, hfr, hf_spans, pmkB_f_marks, (by exact hq116), (by omega), (by omega)⟩)
    · cases hv
      have hw_ := hfk.get hw_ (by decide)
      have hq := hfk.get hq (by simp only [List.mem_cons, List.not_mem_nil, or_false]; omega)
      have hki := hfk.get hki (by simp only [List.mem_cons, List.not_mem_nil, or_false]; omega)
      have hne := hfk.get hne (by simp only [List.mem_cons, List.not_mem_nil, or_false]; omega)
      have hot := hfk.get hot (by simp only [List.mem_cons, List.not_mem_nil, or_false]; omega)
      have hra := hfk.get hra (by simp only [List.mem_cons, List.not_mem_nil, or_false]; omega)
      have hf_subject := hfk.get hf_subject (by decide)
      have hco := hfk.get hco (by decide)
      have hre := hfk.get hre (by decide)
      have hho := hfk.get hho (by decide)
      have hfr := hfr.tr hfk (by decide)
      have hq144 := hfk.1
      have hf_marks := hNf_marks
      have hf_spans := hNf_spans
      have hwk_k := hNwk_k
      have hmk_k := hNmk_k
      have hsk2125 := hNsk2125
      change ab_W _ _ _ G101 12 [some (vR w_), some (vz bf), none] [vz r131] _
      refine ab_istore_n d_PW_hunt_12 (Nat.le_of_ble_eq_true rfl) (Nat.le_of_ble_eq_true rfl) rfl ?_
      change ab_W _ _ _ G101 13 [some (vR w_), some (vz bf), some (vz r131)] [] _
      refine ab_iload_n d_PW_hunt_13 rfl ?_
      refine zz_iconst d_PW_hunt_14 ?_
      refine zz_icmp_eq (tgt := 59) d_PW_hunt_15 (by decide) (by omega) (by decide) (fun c147 => absurd c147 (by omega)) (fun c147 => ?_)
      refine ab_iload_n d_PW_hunt_18 rfl ?_
      refine ab_iload_n d_PW_hunt_19 rfl ?_
      refine zz_icmp_ne (tgt := 59) d_PW_hunt_20 (by decide) (by omega) (by omega) (fun c148 => ?_) (fun c148 => ?_)
      · refine ab_iload_n d_PW_hunt_59 rfl ?_
        refine zz_iconst d_PW_hunt_60 ?_
        refine zz_icmp_eq (tgt := 68) d_PW_hunt_61 (by decide) (by omega) (by decide) (fun c149 => absurd c149 (by omega)) (fun c149 => ?_)
        refine zz_iconst d_PW_hunt_64 ?_
        refine ab_goto (tgt := 69) d_PW_hunt_65 (by decide) ?_
        have pmkB_f_marks : mkB o120 G101 f_marks q f_subject f_spans nm ns2126 cnt n := ⟨wk_k, mk_k, sk2125, w_k, df2121, dp2122, fo2123, fy_k, hw_k, st2124, WK2127, M2128, SK2129, hf_marks, hwk_k, hmk_k, hsk2125, (by omega), hq133, (by omega), (by omega), (by omega), (by omega)⟩
        refine zz_bret rfl (by decide) d_PW_hunt_69 ?_
        rw [hQ]; exact (Or.inr ⟨_, _, _, rfl, hfr, hf_spans, pmkB_f_marks, (by exact hq135), (by omega), (by omega), (by exact hq141), (by have t1 := hq141 1 (by omega) (by omega); have t2 := hq142; omega)⟩)
      · have hs0_ := hq135 0 (by omega) (by omega)
        refine ab_aload_n d_PW_hunt_23 rfl ?_
        refine ab_getf (fs := [vR f_ready, vR f_tape, vR f_reader, vR f_programs, vR f_subject, vR f_spans, vR f_threads, vR f_marks, vR f_oneMind, vR f_states, vR f_latest, vR f_matches, vR f_pieces, vR f_template, vR f_result, vR f_spare, vz cmp, vz ovs]) f_PW_42 d_PW_hunt_24 hw_.2.2 rfl ?_
        refine zz_iconst d_PW_hunt_27 ?_
        refine zz_iald d_PW_hunt_28 hf_spans (by omega) ?_
        refine ab_iload_n d_PW_hunt_29 rfl ?_
        refine zz_icmp_ne (tgt := 59) d_PW_hunt_30 (by decide) (by omega) (by omega) (fun c150 => ?_) (fun c150 => ?_)
        · refine ab_iload_n d_PW_hunt_59 rfl ?_
          refine zz_iconst d_PW_hunt_60 ?_
          refine zz_icmp_eq (tgt := 68) d_PW_hunt_61 (by decide) (by omega) (by decide) (fun c151 => absurd c151 (by omega)) (fun c151 => ?_)
          refine zz_iconst d_PW_hunt_64 ?_
          refine ab_goto (tgt := 69) d_PW_hunt_65 (by decide) ?_
          have pmkB_f_marks : mkB o120 G101 f_marks q f_subject f_spans nm ns2126 cnt n := ⟨wk_k, mk_k, sk2125, w_k, df2121, dp2122, fo2123, fy_k, hw_k, st2124, WK2127, M2128, SK2129, hf_marks, hwk_k, hmk_k, hsk2125, (by omega), hq133, (by omega), (by omega), (by omega), (by omega)⟩
          refine zz_bret rfl (by decide) d_PW_hunt_69 ?_
          rw [hQ]; exact (Or.inr ⟨_, _, _, rfl, hfr, hf_spans, pmkB_f_marks, (by exact hq135), (by omega), (by omega), (by exact hq141), (by have t1 := hq141 1 (by omega) (by omega); have t2 := hq142; omega)⟩)
        · refine ab_iload_n d_PW_hunt_33 rfl ?_
          refine ab_aload_n d_PW_hunt_34 rfl ?_
          refine ab_getf (fs := [vR f_ready, vR f_tape, vR f_reader, vR f_programs, vR f_subject, vR f_spans, vR f_threads, vR f_marks, vR f_oneMind, vR f_states, vR f_latest, vR f_matches, vR f_pieces, vR f_template, vR f_result, vR f_spare, vz cmp, vz ovs]) f_PW_38 d_PW_hunt_35 hw_.2.2 rfl ?_
          refine ab_getf (fs := [vR by_, vR co, vR re, vR ho, vz n]) f_PW_164 d_PW_hunt_38 hf_subject.2.2 rfl ?_
          refine zz_icmp_ge (tgt := 57) d_PW_hunt_41 (by decide) (by omega) (by omega) (fun c152 => ?_) (fun c152 => ?_)
          · refine zz_iconst d_PW_hunt_57 ?_
            refine ab_istore_n d_PW_hunt_58 (Nat.le_of_ble_eq_true rfl) (Nat.le_of_ble_eq_true rfl) rfl ?_
            change ab_W _ _ _ G101 59 [some (vR w_), some (vz bf), some (vz (-1))] [] _
            refine ab_iload_n d_PW_hunt_59 rfl ?_
            refine zz_iconst d_PW_hunt_60 ?_
            refine zz_icmp_eq (tgt := 68) d_PW_hunt_61 (by decide) (by decide) (by decide) (fun c153 => ?_) (fun c153 => absurd c153 (by decide))
            refine zz_iconst d_PW_hunt_68 ?_
            have pmkB_f_marks : mkB o120 G101 f_marks q f_subject f_spans nm ns2126 cnt n := ⟨wk_k, mk_k, sk2125, w_k, df2121, dp2122, fo2123, fy_k, hw_k, st2124, WK2127, M2128, SK2129, hf_marks, hwk_k, hmk_k, hsk2125, (by omega), hq133, (by omega), (by omega), (by omega), (by omega)⟩
            refine zz_bret rfl (by decide) d_PW_hunt_69 ?_
            rw [hQ]; exact (Or.inl ⟨_, _, _, rfl, hfr, hf_spans, pmkB_f_marks, (by exact hq135), (by omega), (by omega)⟩)
          · refine ab_aload_n d_PW_hunt_44 rfl ?_
            refine ab_getf (fs := [vR f_ready, vR f_tape, vR f_reader, vR f_programs, vR f_subject, vR f_spans, vR f_threads, vR f_marks, vR f_oneMind, vR f_states, vR f_latest, vR f_matches, vR f_pieces, vR f_template, vR f_result, vR f_spare, vz cmp, vz ovs]) f_PW_55 d_PW_hunt_45 hw_.2.2 rfl ?_
            refine ab_iload_n d_PW_hunt_48 rfl ?_
            refine zz_iconst d_PW_hunt_49 ?_
            refine zz_iadd d_PW_hunt_50 ?_
            refine ab_callV (d' := d - 1) (as := [vz (bf + 1)]) (st := []) (r := _) (z_MK_find (o := o120) (q := q) (lq := lq) (ki := ki) (ne := ne) (ot := ot) (cnt := cnt) (fi := fi) (la := la) (ra := ra) (ru := ru) (gr := gr) (wi := wi) (sz := sz) (fl := fl) (ve := ve) (mi := mi) (na := na) (nl := nl) (K := K) (N := N) (O := O) (RR := RR) (nr := nr) (s := f_subject) (by_ := by_) (co := co) (re := re) (ho := ho) (n := n) (C := C) (Rs := Rs) (H := H) (mc := mc) (a := f_marks) (sp := f_spans) (wk := wk_k) (mk := mk_k) (stk := sk2125) (w := w_k) (df := df2121) (dp := dp2122) (fo := fo2123) (fy := fy_k) (hw := hw_k) (stp := st2124) (SP := SP2130) (WK := WK2127) (M := M2128) (SK := SK2129) (nm := nm) (ns := ns2126) (p := (bf + 1)) hf_marks hf_spans hwk_k hmk_k hsk2125 hq hki hne hot hra hf_subject hco hre hho (by omega) hp hr (by omega) hsu (by omega) (by omega) (by omega) (by omega) (by omega) (by omega) hq133 (by omega) (by omega) hq135 (by omega) (by omega) (by omega)) (fun oc G2 h => by rcases h with ⟨_, _, _, _, _, _, _, _, _, _, _, h, _⟩ | ⟨_, _, _, _, _, _, _, _, _, _, _, _, h, _⟩ <;> exact ⟨_, h⟩) (by omega) m_MK_find ml_PW_251 im_MK_find se_MK_find c_MK hf_marks.2.2 (Nat.le_of_ble_eq_true rfl) d_PW_hunt_51 rfl ?_
            intro v G154 hq
            rcases hq with ⟨o155, df2156, dp2157, fo2158, st2159, sk2160, ns2161, WK2162, M2163, SK2164, SP2165, hv, hfk, hNf_marks, hNf_spans, hNwk_k, hNmk_k, hNsk2160, hq166, hq167, hq168, hq169, hq170, hq171, hq172⟩ | ⟨o173, df2174, dp2175, fo2176, st2177, sk2178, ns2179, WK2180, M2181, SK2182, SP2183, r184, hv, hfk, hNf_marks, hNf_spans, hNwk_k, hNmk_k, hNsk2178, hq185, hq186, hq187, hq188, hq189, hq190, hq191, hq192, hq193, hq194, hq195⟩
            · cases hv
              have hw_ := hfk.get hw_ (by decide)
              have hq := hfk.get hq (by simp only [List.mem_cons, List.not_mem_nil, or_false]; omega)
              have hki := hfk.get hki (by simp only [List.mem_cons, List.not_mem_nil, or_false]; omega)
              have hne := hfk.get hne (by simp only [List.mem_cons, List.not_mem_nil, or_false]; omega)
              have hot := hfk.get hot (by simp only [List.mem_cons, List.not_mem_nil, or_false]; omega)
              have hra := hfk.get hra (by simp only [List.mem_cons, List.not_mem_nil, or_false]; omega)
              have hf_subject := hfk.get hf_subject (by decide)
              have hco := hfk.get hco (by decide)
              have hre := hfk.get hre (by decide)
              have hho := hfk.get hho (by decide)
              have hfr := hfr.tr hfk (by decide)
              have hq196 := hfk.1
              have hf_marks := hNf_marks
              have hf_spans := hNf_spans
              have hwk_k := hNwk_k
              have hmk_k := hNmk_k
              have hsk2160 := hNsk2160
              change ab_W _ _ _ G154 54 [some (vR w_), some (vz bf), some (vz r131)] [vz (-1)] _
              refine ab_goto (tgt := 58) d_PW_hunt_54 (by decide) ?_
              refine ab_istore_n d_PW_hunt_58 (Nat.le_of_ble_eq_true rfl) (Nat.le_of_ble_eq_true rfl) rfl ?_
              change ab_W _ _ _ G154 59 [some (vR w_), some (vz bf), some (vz (-1))] [] _
              refine ab_iload_n d_PW_hunt_59 rfl ?_
              refine zz_iconst d_PW_hunt_60 ?_
              refine zz_icmp_eq (tgt := 68) d_PW_hunt_61 (by decide) (by decide) (by decide) (fun c198 => ?_) (fun c198 => absurd c198 (by decide))
              refine zz_iconst d_PW_hunt_68 ?_
              have pmkB_f_marks : mkB o155 G154 f_marks q f_subject f_spans nm ns2161 cnt n := ⟨wk_k, mk_k, sk2160, w_k, df2156, dp2157, fo2158, fy_k, hw_k, st2159, WK2162, M2163, SK2164, hf_marks, hwk_k, hmk_k, hsk2160, (by omega), hq167, (by omega), (by omega), (by omega), (by omega)⟩
              refine zz_bret rfl (by decide) d_PW_hunt_69 ?_
              rw [hQ]; exact (Or.inl ⟨_, _, _, rfl, hfr, hf_spans, pmkB_f_marks, (by exact hq169), (by omega), (by omega)⟩)
            · cases hv
              have hw_ := hfk.get hw_ (by decide)
              have hq := hfk.get hq (by simp only [List.mem_cons, List.not_mem_nil, or_false]; omega)
              have hki := hfk.get hki (by simp only [List.mem_cons, List.not_mem_nil, or_false]; omega)
              have hne := hfk.get hne (by simp only [List.mem_cons, List.not_mem_nil, or_false]; omega)
              have hot := hfk.get hot (by simp only [List.mem_cons, List.not_mem_nil, or_false]; omega)
              have hra := hfk.get hra (by simp only [List.mem_cons, List.not_mem_nil, or_false]; omega)
              have hf_subject := hfk.get hf_subject (by decide)
              have hco := hfk.get hco (by decide)
              have hre := hfk.get hre (by decide)
              have hho := hfk.get hho (by decide)
              have hfr := hfr.tr hfk (by decide)
              have hq197 := hfk.1
              have hf_marks := hNf_marks
              have hf_spans := hNf_spans
              have hwk_k := hNwk_k
              have hmk_k := hNmk_k
              have hsk2178 := hNsk2178
              change ab_W _ _ _ G154 54 [some (vR w_), some (vz bf), some (vz r131)] [vz r184] _
              refine ab_goto (tgt := 58) d_PW_hunt_54 (by decide) ?_
              refine ab_istore_n d_PW_hunt_58 (Nat.le_of_ble_eq_true rfl) (Nat.le_of_ble_eq_true rfl) rfl ?_
              change ab_W _ _ _ G154 59 [some (vR w_), some (vz bf), some (vz r184)] [] _
              refine ab_iload_n d_PW_hunt_59 rfl ?_
              refine zz_iconst d_PW_hunt_60 ?_
              refine zz_icmp_eq (tgt := 68) d_PW_hunt_61 (by decide) (by omega) (by decide) (fun c199 => absurd c199 (by omega)) (fun c199 => ?_)
              refine zz_iconst d_PW_hunt_64 ?_
              refine ab_goto (tgt := 69) d_PW_hunt_65 (by decide) ?_
              have pmkB_f_marks : mkB o173 G154 f_marks q f_subject f_spans nm ns2179 cnt n := ⟨wk_k, mk_k, sk2178, w_k, df2174, dp2175, fo2176, fy_k, hw_k, st2177, WK2180, M2181, SK2182, hf_marks, hwk_k, hmk_k, hsk2178, (by omega), hq186, (by omega), (by omega), (by omega), (by omega)⟩
              refine zz_bret rfl (by decide) d_PW_hunt_69 ?_
              rw [hQ]; exact (Or.inr ⟨_, _, _, rfl, hfr, hf_spans, pmkB_f_marks, (by exact hq188), (by omega), (by omega), (by exact hq194), (by have t1 := hq194 1 (by omega) (by omega); have t2 := hq195; omega)⟩)
set_option maxRecDepth 100000 in
set_option maxHeartbeats 4000000 in
theorem y_PW_all_50 {X : ab_X} {d : Nat} {Q : Outcome → ab_G → Prop} {o0 : Nat → Nat} {G0 : ab_G} {w_ : Nat} {f_ready : Nat} {f_tape : Nat} {f_reader : Nat} {f_programs : Nat} {f_subject : Nat} {f_spans : Nat} {f_threads : Nat} {f_marks : Nat} {f_oneMind : Nat} {f_states : Nat} {f_latest : Nat} {f_matches : Nat} {f_pieces : Nat} {f_template : Nat} {f_result : Nat} {f_spare : Nat} {cmp : Int} {ovs : Int} {q : Nat} {lq : Nat} {ki : Nat} {ne : Nat} {ot : Nat} {cnt : Int} {fi : Int} {la : Int} {ra : Nat} {ru : Int} {gr : Int} {wi : Int} {sz : Int} {fl : Int} {ve : Int} {mi : Int} {K : Int → Int} {N : Int → Int} {O : Int → Int} {RR : Int → Int} {nr : Nat} {na : Nat} {nl : Nat} {nm : Nat} {n : Int} {m : Nat} {by_ : Nat} {co : Nat} {re : Nat} {ho : Nat} {f : Int → Int} {C : Int → Int} {Rs : Int → Int} {H : Int → Int} {mc : Nat} {ns0 : Nat} {mr0 : Nat} (n18 : ab_n0 = 18) (cq : 100 ≤ lq ∧ 2 ≤ cnt ∧ cnt ≤ 808 ∧ ↑nr ≤ (100000 : Int)) (hp : prok K N O RR cnt ↑nr wi) (hr : ∀ k : Int, 0 ≤ k → k < ↑nr → 0 ≤ RR k ∧ RR k ≤ 1114111) (cfi : 0 ≤ fi ∧ fi < cnt) (cwi : 2 ≤ wi ∧ wi ≤ 20) (csu : 0 ≤ n ∧ n ≤ ↑m ∧ 32 ≤ m ∧ m ≤ 2000 ∧ mc = m + 1) (hsu : suok f C Rs H n) (rc : G0.length + 4500 ≤ ab_n0 + room_1.cells) (rs : ab_slots G0 + 1940000 ≤ room_1.slots + stT ns0 + zT mr0 4002) (hd : 11 ≤ d) : ∀ (mz : Nat) {G : ab_G} {o : Nat → Nat} {ns : Nat} {SP : Int → Int} {it_a : Nat} {sz_a : Int} {mr_a : Nat} {F_a : Int → Int} {bf : Int} {tu : Int}, (cc o G w_ 18 (ab_ob 0 [vR f_ready, vR f_tape, vR f_reader, vR f_programs, vR f_subject, vR f_spans, vR f_threads, vR f_marks, vR f_oneMind, vR f_states, vR f_latest, vR f_matches, vR f_pieces, vR f_template, vR f_result, vR f_spare, vz cmp, vz ovs])) → (cc o G f_spans 31 (za 20 SP)) → (cc o G q lq (ab_ob 5 [vR ki, vR ne, vR ot, vz cnt, vz fi, vz la, vR ra, vz ru, vz gr, vz wi, vz sz, vz fl, vz ve, vz mi, vR na, vR nl])) → (cc o G ki (lq + 1) (za 808 K)) → (cc o G ne (lq + 2) (za 808 N)) → (cc o G ot (lq + 3) (za 808 O)) → (cc o G ra (lq + 4) (za nr RR)) → (cc o G f_subject 26 (ab_ob 9 [vR by_, vR co, vR re, vR ho, vz n])) → (cc o G co 28 (za mc C)) → (cc o G re 29 (za mc Rs)) → (cc o G ho 30 (za mc H)) → (cc o G f_matches 71 (ab_ob 7 [vz 4002, vR it_a, vz sz_a])) → (cc o G it_a 72 (za mr_a F_a)) → (mkB o G f_marks q f_subject f_spans nm ns cnt n) → (0 ≤ tu ∧ tu ≤ n + 1 ∧ -1 ≤ bf ∧ bf ≤ n) → (rgs SP 20 (-1) 2000) → (0 ≤ sz_a ∧ sz_a ≤ ↑mr_a ∧ ↑mr_a ≤ (4002 : Int) ∧ 32 ≤ mr_a) → (G.length + stC ns0 + mr0 ≤ G0.length + stC ns + mr_a) → (ab_slots G + stT ns0 + zT mr0 4002 ≤ ab_slots G0 + stT ns + zT mr_a 4002) → (fx o0 o [31, 44, 45, 46, 47, 71, 72] G0 G) → (Int.toNat (n + 1 - tu) < mz) → (∀ (G2 : ab_G) (o2 : Nat → Nat) (ns2 : Nat) (SP2 : Int → Int) (it2 : Nat) (sz2 : Int) (mr2 : Nat) (F2 : Int → Int), (cc o2 G2 f_spans 31 (za 20 SP2)) → (cc o2 G2 f_matches 71 (ab_ob 7 [vz 4002, vR it2, vz sz2])) → (cc o2 G2 it2 72 (za mr2 F2)) → (mkB o2 G2 f_marks q f_subject f_spans nm ns2 cnt n) → (rgs SP2 20 (-1) 2000) → (0 ≤ sz2 ∧ sz2 ≤ ↑mr2 ∧ ↑mr2 ≤ (4002 : Int) ∧ 32 ≤ mr2) → (G2.length + stC ns0 + mr0 ≤ G0.length + stC ns2 + mr2) → (ab_slots G2 + stT ns0 + zT mr0 4002 ≤ ab_slots G0 + stT ns2 + zT mr2 4002) → (fx o0 o2 [31, 44, 45, 46, 47, 71, 72] G0 G2) → ab_W X (ab_pl y_PW_all b_PW_all 5 (some (.int))) d G2 111 [some (vR w_), none, some (vR q), none, none] [] Q) → ab_W X (ab_pl y_PW_all b_PW_all 5 (some (.int))) d G 50 [some (vR w_), none, some (vR q), some (vz bf), some (vz tu)] [] Q := by
  intro mz
  induction mz with
  | zero => intro G o ns SP it_a sz_a mr_a F_a bf tu hw_ hf_spans hq hki hne hot hra hf_subject hco hre hho hf_matches hit_a pmkB_f_marks ci jsp crw_a hg hs hfr hm hk0; exact absurd hm (Nat.not_lt_zero _)
  | succ mz ih =>
    intro G o ns SP it_a sz_a mr_a F_a bf tu hw_ hf_spans hq hki hne hot hra hf_subject hco hre hho hf_matches hit_a pmkB_f_marks ci jsp crw_a hg hs hfr hm hk0
    have hq1 := stT_le ns
    have hq2 := stC_le ns
    have hza_ : zT mr_a 4002 ≤ 12006 := zT_le (c := 4002) (by omega) rfl
    refine ab_iload d_PW_all_50 rfl ?_
    refine ab_aload_n d_PW_all_52 rfl ?_
    refine ab_getf (fs := [vR f_ready, vR f_tape, vR f_reader, vR f_programs, vR f_subject, vR f_spans, vR f_threads, vR f_marks, vR f_oneMind, vR f_states, vR f_latest, vR f_matches, vR f_pieces, vR f_template, vR f_result, vR f_spare, vz cmp, vz ovs]) f_PW_38 d_PW_all_53 hw_.2.2 rfl ?_
    refine ab_getf (fs := [vR by_, vR co, vR re, vR ho, vz n]) f_PW_164 d_PW_all_56 hf_subject.2.2 rfl ?_
    refine zz_icmp_gt (tgt := 111) d_PW_all_59 (by decide) (by omega) (by omega) (fun c3 => ?_) (fun c3 => ?_)
    · refine ab_less (L' := [some (vR w_), none, some (vR q), none, none]) (fun i v h => by rcases i with _ | _ | _ | _ | _ | i <;> first | exact h | (simp at h)) ?_
      exact hk0 _ _ _ _ _ _ _ _ hf_spans hf_matches hit_a pmkB_f_marks (by exact jsp) (by omega) (by omega) (by omega) hfr
    · refine ab_aload_n d_PW_all_62 rfl ?_
      refine ab_iload_n d_PW_all_63 rfl ?_
      refine ab_callV (d' := d - 1) (as := [vz bf]) (st := []) (r := _) (z_PW_hunt (o := o) (w_ := w_) (f_ready := f_ready) (f_tape := f_tape) (f_reader := f_reader) (f_programs := f_programs) (f_subject := f_subject) (f_spans := f_spans) (f_threads := f_threads) (f_marks := f_marks) (f_oneMind := f_oneMind) (f_states := f_states) (f_latest := f_latest) (f_matches := f_matches) (f_pieces := f_pieces) (f_template := f_template) (f_result := f_result) (f_spare := f_spare) (cmp := cmp) (ovs := ovs) (q := q) (lq := lq) (ki := ki) (ne := ne) (ot := ot) (cnt := cnt) (fi := fi) (la := la) (ra := ra) (ru := ru) (gr := gr) (wi := wi) (sz := sz) (fl := fl) (ve := ve) (mi := mi) (K := K) (N := N) (O := O) (RR := RR) (nr := nr) (na := na) (nl := nl) (nm := nm) (ns := ns) (n := n) (SP := SP) (by_ := by_) (co := co) (re := re) (ho := ho) (C := C) (Rs := Rs) (H := H) (mc := mc) (bf := bf) hw_ hf_spans hq hki hne hot hra hf_subject hco hre hho pmkB_f_marks (by omega) (by omega) hp hr (by omega) (by omega) (by omega) hsu jsp (by omega) (by omega) (by omega) (by omega)) (fun oc G2 h => by rcases h with ⟨_, _, _, h, _⟩ | ⟨_, _, _, h, _⟩ <;> exact ⟨_, h⟩) (by omega) m_PW_hunt ml_PW_193 im_PW_hunt se_PW_hunt c_PW hw_.2.2 (Nat.le_of_ble_eq_true rfl) d_PW_all_64 rfl ?_
      intro v G4 hq
      rcases hq with ⟨o5, ns26, SP27, hv, hfk, hNf_spans, pNmkB_f_marks, hq8, hq9, hq10⟩ | ⟨o11, ns212, SP213, hv, hfk, hNf_spans, pNmkB_f_marks, hq14, hq15, hq16, hq17, hq18⟩
      · cases hv
        have hw_ := hfk.get hw_ (by decide)
        have hq := hfk.get hq (by simp only [List.mem_cons, List.not_mem_nil, or_false]; omega)
        have hki := hfk.get hki (by simp only [List.mem_cons, List.not_mem_nil, or_false]; omega)
        have hne := hfk.get hne (by simp only [List.mem_cons, List.not_mem_nil, or_false]; omega)
        have hot := hfk.get hot (by simp only [List.mem_cons, List.not_mem_nil, or_false]; omega)
        have hra := hfk.get hra (by simp only [List.mem_cons, List.not_mem_nil, or_false]; omega)
        have hf_subject := hfk.get hf_subject (by decide)
        have hco := hfk.get hco (by decide)
        have hre := hfk.get hre (by decide)
        have hho := hfk.get hho (by decide)
        have hf_matches := hfk.get hf_matches (by decide)
        have hit_a := hfk.get hit_a (by decide)
        have pmkB_f_marks := pNmkB_f_marks
        have hfr := hfr.tr hfk (by decide)
        have hq19 := hfk.1
        have hf_spans := hNf_spans
        change ab_W _ _ _ G4 67 [some (vR w_), none, some (vR q), some (vz bf), some (vz tu)] [vz 0] _
        refine zz_if_eq (tgt := 111) d_PW_all_67 (by decide) (by decide) (fun c21 => ?_) (fun c21 => absurd c21 (by decide))
        refine ab_less (L' := [some (vR w_), none, some (vR q), none, none]) (fun i v h => by rcases i with _ | _ | _ | _ | _ | i <;> first | exact h | (simp at h)) ?_
        exact hk0 _ _ _ _ _ _ _ _ hf_spans hf_matches hit_a pmkB_f_marks (by exact hq8) (by omega) (by omega) (by omega) hfr
      · cases hv
        have hw_ := hfk.get hw_ (by decide)
        have hq := hfk.get hq (by simp only [List.mem_cons, List.not_mem_nil, or_false]; omega)
        have hki := hfk.get hki (by simp only [List.mem_cons, List.not_mem_nil, or_false]; omega)
        have hne := hfk.get hne (by simp only [List.mem_cons, List.not_mem_nil, or_false]; omega)
        have hot := hfk.get hot (by simp only [List.mem_cons, List.not_mem_nil, or_false]; omega)
        have hra := hfk.get hra (by simp only [List.mem_cons, List.not_mem_nil, or_false]; omega)
        have hf_subject := hfk.get hf_subject (by decide)
        have hco := hfk.get hco (by decide)
        have hre := hfk.get hre (by decide)
        have hho := hfk.get hho (by decide)
        have hf_matches := hfk.get hf_matches (by decide)
        have hit_a := hfk.get hit_a (by decide)
        have pmkB_f_marks := pNmkB_f_marks
        have hfr := hfr.tr hfk (by decide)
        have hq20 := hfk.1
        have hf_spans := hNf_spans
        change ab_W _ _ _ G4 67 [some (vR w_), none, some (vR q), some (vz bf), some (vz tu)] [vz 1] _
        refine zz_if_eq (tgt := 111) d_PW_all_67 (by decide) (by decide) (fun c22 => absurd c22 (by decide)) (fun c22 => ?_)
        have hs0_ := hq14 0 (by omega) (by omega)
        have hs1_ := hq14 1 (by omega) (by omega)
        have hq23 := stT_le ns212
        have hq24 := stC_le ns212
        refine ab_aload_n d_PW_all_70 rfl ?_
        refine ab_getf (fs := [vR f_ready, vR f_tape, vR f_reader, vR f_programs, vR f_subject, vR f_spans, vR f_threads, vR f_marks, vR f_oneMind, vR f_states, vR f_latest, vR f_matches, vR f_pieces, vR f_template, vR f_result, vR f_spare, vz cmp, vz ovs]) f_PW_76 d_PW_all_71 hw_.2.2 rfl ?_
        refine ab_aload_n d_PW_all_74 rfl ?_
        refine ab_getf (fs := [vR f_ready, vR f_tape, vR f_reader, vR f_programs, vR f_subject, vR f_spans, vR f_threads, vR f_marks, vR f_oneMind, vR f_states, vR f_latest, vR f_matches, vR f_pieces, vR f_template, vR f_result, vR f_spare, vz cmp, vz ovs]) f_PW_42 d_PW_all_75 hw_.2.2 rfl ?_
        refine zz_iconst d_PW_all_78 ?_
        refine zz_iald d_PW_all_79 hf_spans (by omega) ?_
        refine ab_callV (d' := d - 1) (as := [vz (SP213 0)]) (st := []) (r := _) (z_RW_add (o := o11) (r := f_matches) (b := it_a) (lr := 71) (lb := 72) (n := mr_a) (lim := 4002) (sz := sz_a) (f := F_a) (x := (SP213 0)) hf_matches hit_a (by omega) (by have h18 : ab_n0 = 18 := rfl; omega) (by omega) (by omega) (by omega)) (fun oc G2 h => by rcases h with ⟨h, _⟩ | ⟨_, _, _, _, h, _⟩ <;> exact ⟨_, h⟩) (by omega) m_RW_add ml_PW_197 im_RW_add se_RW_add c_RW hf_matches.2.2 (Nat.le_of_ble_eq_true rfl) d_PW_all_80 rfl ?_
        intro v G25 hq
        rcases hq with ⟨hv, hGe, hq26⟩ | ⟨o27, b228, n229, f230, hv, hfk, hNf_matches, hNb228, hq31, hq32, hq33, hq34, hq35, hq36⟩
        · cases hv
          rw [hGe]
          change ab_W _ _ _ G4 83 [some (vR w_), none, some (vR q), some (vz bf), some (vz tu)] [vz 0] _
          refine ab_pop d_PW_all_83 rfl ?_
          have hz38 : zT mr_a 4002 ≤ 12006 := zT_le (c := 4002) (by omega) rfl
          refine ab_aload_n d_PW_all_84 rfl ?_
          refine ab_getf (fs := [vR f_ready, vR f_tape, vR f_reader, vR f_programs, vR f_subject, vR f_spans, vR f_threads, vR f_marks, vR f_oneMind, vR f_states, vR f_latest, vR f_matches, vR f_pieces, vR f_template, vR f_result, vR f_spare, vz cmp, vz ovs]) f_PW_76 d_PW_all_85 hw_.2.2 rfl ?_
          refine ab_aload_n d_PW_all_88 rfl ?_
          refine ab_getf (fs := [vR f_ready, vR f_tape, vR f_reader, vR f_programs, vR f_subject, vR f_spans, vR f_threads, vR f_marks, vR f_oneMind, vR f_states, vR f_latest, vR f_matches, vR f_pieces, vR f_template, vR f_result, vR f_spare, vz cmp, vz ovs]) f_PW_42 d_PW_all_89 hw_.2.2 rfl ?_
          refine zz_iconst d_PW_all_92 ?_
          refine zz_iald d_PW_all_93 hf_spans (by omega) ?_
          refine ab_callV (d' := d - 1) (as := [vz (SP213 1)]) (st := []) (r := _) (z_RW_add (o := o11) (r := f_matches) (b := it_a) (lr := 71) (lb := 72) (n := mr_a) (lim := 4002) (sz := sz_a) (f := F_a) (x := (SP213 1)) hf_matches hit_a (by omega) (by have h18 : ab_n0 = 18 := rfl; omega) (by omega) (by omega) (by omega)) (fun oc G2 h => by rcases h with ⟨h, _⟩ | ⟨_, _, _, _, h, _⟩ <;> exact ⟨_, h⟩) (by omega) m_RW_add ml_PW_197 im_RW_add se_RW_add c_RW hf_matches.2.2 (Nat.le_of_ble_eq_true rfl) d_PW_all_94 rfl ?_
          intro v G39 hq
          rcases hq with ⟨hv, hGe, hq40⟩ | ⟨o41, b242, n243, f244, hv, hfk, hNf_matches, hNb242, hq45, hq46, hq47, hq48, hq49, hq50⟩
          · cases hv
            rw [hGe]
            change ab_W _ _ _ G4 97 [some (vR w_), none, some (vR q), some (vz bf), some (vz tu)] [vz 0] _
            refine ab_pop d_PW_all_97 rfl ?_
            refine ab_aload_n d_PW_all_98 rfl ?_
            refine ab_getf (fs := [vR f_ready, vR f_tape, vR f_reader, vR f_programs, vR f_subject, vR f_spans, vR f_threads, vR f_marks, vR f_oneMind, vR f_states, vR f_latest, vR f_matches, vR f_pieces, vR f_template, vR f_result, vR f_spare, vz cmp, vz ovs]) f_PW_42 d_PW_all_99 hw_.2.2 rfl ?_
            refine zz_iconst d_PW_all_102 ?_
            refine zz_iald d_PW_all_103 hf_spans (by omega) ?_
            refine ab_istore_n d_PW_all_104 (Nat.le_of_ble_eq_true rfl) (Nat.le_of_ble_eq_true rfl) rfl ?_
            change ab_W _ _ _ G4 105 [some (vR w_), none, some (vR q), some (vz (SP213 1)), some (vz tu)] [] _
            refine zz_iinc d_PW_all_105 rfl (Nat.le_of_ble_eq_true rfl) (Nat.le_of_ble_eq_true rfl) rfl ?_
            change ab_W _ _ _ G4 108 [some (vR w_), none, some (vR q), some (vz (SP213 1)), some (vz (tu + 1))] [] _
            refine ab_goto (tgt := 50) d_PW_all_108 (by decide) ?_
            exact ih (ns := ns212) (SP := SP213) (it_a := it_a) (sz_a := sz_a) (mr_a := mr_a) (F_a := F_a) (bf := (SP213 1)) (tu := (tu + 1)) hw_ hf_spans hq hki hne hot hra hf_subject hco hre hho hf_matches hit_a pmkB_f_marks (by omega) hq14 (by omega) (by omega) (by omega) hfr (by omega) hk0
          · cases hv
            have hw_ := hfk.get hw_ (by decide)
            have hf_spans := hfk.get hf_spans (by decide)
            have hq := hfk.get hq (by simp only [List.mem_cons, List.not_mem_nil, or_false]; omega)
            have hki := hfk.get hki (by simp only [List.mem_cons, List.not_mem_nil, or_false]; omega)
            have hne := hfk.get hne (by simp only [List.mem_cons, List.not_mem_nil, or_false]; omega)
            have hot := hfk.get hot (by simp only [List.mem_cons, List.not_mem_nil, or_false]; omega)
            have hra := hfk.get hra (by simp only [List.mem_cons, List.not_mem_nil, or_false]; omega)
            have hf_subject := hfk.get hf_subject (by decide)
            have hco := hfk.get hco (by decide)
            have hre := hfk.get hre (by decide)
            have hho := hfk.get hho (by decide)
            have pmkB_f_marks := mkB.fr hfk pmkB_f_marks (by decide) (by decide) (by decide) (by decide)
            have hfr := hfr.tr hfk (by decide)
            have hq51 := hfk.1
            have hf_matches := hNf_matches
            have hb242 := hNb242
            change ab_W _ _ _ G39 97 [some (vR w_), none, some (vR q), some (vz bf), some (vz tu)] [vz 1] _
            exfalso; omega
        · cases hv
          have hw_ := hfk.get hw_ (by decide)
          have hf_spans := hfk.get hf_spans (by decide)
          have hq := hfk.get hq (by simp only [List.mem_cons, List.not_mem_nil, or_false]; omega)
          have hki := hfk.get hki (by simp only [List.mem_cons, List.not_mem_nil, or_false]; omega)
          have hne := hfk.get hne (by simp only [List.mem_cons, List.not_mem_nil, or_false]; omega)
          have hot := hfk.get hot (by simp only [List.mem_cons, List.not_mem_nil, or_false]; omega)
          have hra := hfk.get hra (by simp only [List.mem_cons, List.not_mem_nil, or_false]; omega)
          have hf_subject := hfk.get hf_subject (by decide)
          have hco := hfk.get hco (by decide)
          have hre := hfk.get hre (by decide)
          have hho := hfk.get hho (by decide)
          have pmkB_f_marks := mkB.fr hfk pmkB_f_marks (by decide) (by decide) (by decide) (by decide)
          have hfr := hfr.tr hfk (by decide)
          have hq37 := hfk.1
          have hf_matches := hNf_matches
          have hb228 := hNb228
          change ab_W _ _ _ G25 83 [some (vR w_), none, some (vR q), some (vz bf), some (vz tu)] [vz 1] _
          refine ab_pop d_PW_all_83 rfl ?_
          have hz52 : zT n229 4002 ≤ 12006 := zT_le (c := 4002) (by omega) rfl
          refine ab_aload_n d_PW_all_84 rfl ?_
          refine ab_getf (fs := [vR f_ready, vR f_tape, vR f_reader, vR f_programs, vR f_subject, vR f_spans, vR f_threads, vR f_marks, vR f_oneMind, vR f_states, vR f_latest, vR f_matches, vR f_pieces, vR f_template, vR f_result, vR f_spare, vz cmp, vz ovs]) f_PW_76 d_PW_all_85 hw_.2.2 rfl ?_
          refine ab_aload_n d_PW_all_88 rfl ?_
          refine ab_getf (fs := [vR f_ready, vR f_tape, vR f_reader, vR f_programs, vR f_subject, vR f_spans, vR f_threads, vR f_marks, vR f_oneMind, vR f_states, vR f_latest, vR f_matches, vR f_pieces, vR f_template, vR f_result, vR f_spare, vz cmp, vz ovs]) f_PW_42 d_PW_all_89 hw_.2.2 rfl ?_
          refine zz_iconst d_PW_all_92 ?_
          refine zz_iald d_PW_all_93 hf_spans (by omega) ?_
          refine ab_callV (d' := d - 1) (as := [vz (SP213 1)]) (st := []) (r := _) (z_RW_add (o := o27) (r := f_matches) (b := b228) (lr := 71) (lb := 72) (n := n229) (lim := 4002) (sz := (sz_a + 1)) (f := f230) (x := (SP213 1)) hf_matches hb228 (by omega) (by have h18 : ab_n0 = 18 := rfl; omega) (by omega) (by omega) (by omega)) (fun oc G2 h => by rcases h with ⟨h, _⟩ | ⟨_, _, _, _, h, _⟩ <;> exact ⟨_, h⟩) (by omega) m_RW_add ml_PW_197 im_RW_add se_RW_add c_RW hf_matches.2.2 (Nat.le_of_ble_eq_true rfl) d_PW_all_94 rfl ?_
          intro v G53 hq
          rcases hq with ⟨hv, hGe, hq54⟩ | ⟨o55, b256, n257, f258, hv, hfk, hNf_matches, hNb256, hq59, hq60, hq61, hq62, hq63, hq64⟩
          · cases hv
            rw [hGe]
            change ab_W _ _ _ G25 97 [some (vR w_), none, some (vR q), some (vz bf), some (vz tu)] [vz 0] _
            refine ab_pop d_PW_all_97 rfl ?_
            refine ab_aload_n d_PW_all_98 rfl ?_
            refine ab_getf (fs := [vR f_ready, vR f_tape, vR f_reader, vR f_programs, vR f_subject, vR f_spans, vR f_threads, vR f_marks, vR f_oneMind, vR f_states, vR f_latest, vR f_matches, vR f_pieces, vR f_template, vR f_result, vR f_spare, vz cmp, vz ovs]) f_PW_42 d_PW_all_99 hw_.2.2 rfl ?_
            refine zz_iconst d_PW_all_102 ?_
            refine zz_iald d_PW_all_103 hf_spans (by omega) ?_
            refine ab_istore_n d_PW_all_104 (Nat.le_of_ble_eq_true rfl) (Nat.le_of_ble_eq_true rfl) rfl ?_
            change ab_W _ _ _ G25 105 [some (vR w_), none, some (vR q), some (vz (SP213 1)), some (vz tu)] [] _
            refine zz_iinc d_PW_all_105 rfl (Nat.le_of_ble_eq_true rfl) (Nat.le_of_ble_eq_true rfl) rfl ?_
            change ab_W _ _ _ G25 108 [some (vR w_), none, some (vR q), some (vz (SP213 1)), some (vz (tu + 1))] [] _
            refine ab_goto (tgt := 50) d_PW_all_108 (by decide) ?_
            exact ih (ns := ns212) (SP := SP213) (it_a := b228) (sz_a := (sz_a + 1)) (mr_a := n229) (F_a := f230) (bf := (SP213 1)) (tu := (tu + 1)) hw_ hf_spans hq hki hne hot hra hf_subject hco hre hho hf_matches hb228 pmkB_f_marks (by omega) hq14 (by omega) (by omega) (by omega) hfr (by omega) hk0
          · cases hv
            have hw_ := hfk.get hw_ (by decide)
            have hf_spans := hfk.get hf_spans (by decide)
            have hq := hfk.get hq (by simp only [List.mem_cons, List.not_mem_nil, or_false]; omega)
            have hki := hfk.get hki (by simp only [List.mem_cons, List.not_mem_nil, or_false]; omega)
            have hne := hfk.get hne (by simp only [List.mem_cons, List.not_mem_nil, or_false]; omega)
            have hot := hfk.get hot (by simp only [List.mem_cons, List.not_mem_nil, or_false]; omega)
            have hra := hfk.get hra (by simp only [List.mem_cons, List.not_mem_nil, or_false]; omega)
            have hf_subject := hfk.get hf_subject (by decide)
            have hco := hfk.get hco (by decide)
            have hre := hfk.get hre (by decide)
            have hho := hfk.get hho (by decide)
            have pmkB_f_marks := mkB.fr hfk pmkB_f_marks (by decide) (by decide) (by decide) (by decide)
            have hfr := hfr.tr hfk (by decide)
            have hq65 := hfk.1
            have hf_matches := hNf_matches
            have hb256 := hNb256
            change ab_W _ _ _ G53 97 [some (vR w_), none, some (vR q), some (vz bf), some (vz tu)] [vz 1] _
            refine ab_pop d_PW_all_97 rfl ?_
            refine ab_aload_n d_PW_all_98 rfl ?_
            refine ab_getf (fs := [vR f_ready, vR f_tape, vR f_reader, vR f_programs, vR f_subject, vR f_spans, vR f_threads, vR f_marks, vR f_oneMind, vR f_states, vR f_latest, vR f_matches, vR f_pieces, vR f_template, vR f_result, vR f_spare, vz cmp, vz ovs]) f_PW_42 d_PW_all_99 hw_.2.2 rfl ?_
            refine zz_iconst d_PW_all_102 ?_
            refine zz_iald d_PW_all_103 hf_spans (by omega) ?_
            refine ab_istore_n d_PW_all_104 (Nat.le_of_ble_eq_true rfl) (Nat.le_of_ble_eq_true rfl) rfl ?_
            change ab_W _ _ _ G53 105 [some (vR w_), none, some (vR q), some (vz (SP213 1)), some (vz tu)] [] _
            refine zz_iinc d_PW_all_105 rfl (Nat.le_of_ble_eq_true rfl) (Nat.le_of_ble_eq_true rfl) rfl ?_
            change ab_W _ _ _ G53 108 [some (vR w_), none, some (vR q), some (vz (SP213 1)), some (vz (tu + 1))] [] _
            refine ab_goto (tgt := 50) d_PW_all_108 (by decide) ?_
            exact ih (ns := ns212) (SP := SP213) (it_a := b256) (sz_a := ((sz_a + 1) + 1)) (mr_a := n257) (F_a := f258) (bf := (SP213 1)) (tu := (tu + 1)) hw_ hf_spans hq hki hne hot hra hf_subject hco hre hho hf_matches hb256 pmkB_f_marks (by omega) hq14 (by omega) (by omega) (by omega) hfr (by omega) hk0
set_option maxRecDepth 100000 in
set_option maxHeartbeats 4000000 in
theorem z_PW_all {X : ab_X} {d : Nat} {o : Nat → Nat} {G : ab_G} {w_ : Nat} {f_ready : Nat} {f_tape : Nat} {f_reader : Nat} {f_programs : Nat} {f_subject : Nat} {f_spans : Nat} {f_threads : Nat} {f_marks : Nat} {f_oneMind : Nat} {f_states : Nat} {f_latest : Nat} {f_matches : Nat} {f_pieces : Nat} {f_template : Nat} {f_result : Nat} {f_spare : Nat} {cmp : Int} {ovs : Int} {PG : Nat → Option Nat} {NR : Nat → Nat} {cv : Int → Int} {on : Nat} {nm : Nat} {ns : Nat} {nt : Nat} {n : Int} {m : Nat} {SP : Int → Int} {it_a : Nat} {sz_a : Int} {mr_a : Nat} {F_a : Int → Int} {sl : Int} {k_ : Nat} (hw_ : cc o G w_ 18 (ab_ob 0 [vR f_ready, vR f_tape, vR f_reader, vR f_programs, vR f_subject, vR f_spans, vR f_threads, vR f_marks, vR f_oneMind, vR f_states, vR f_latest, vR f_matches, vR f_pieces, vR f_template, vR f_result, vR f_spare, vz cmp, vz ovs])) (hf_spans : cc o G f_spans 31 (za 20 SP)) (h17 : cc o G 17 17 (za 12 zFC)) (hf_programs : cc o G f_programs 81 (ab_rr 6 PG)) (hf_matches : cc o G f_matches 71 (ab_ob 7 [vz 4002, vR it_a, vz sz_a])) (hit_a : cc o G it_a 72 (za mr_a F_a)) (pthI_f_threads : thI o G f_threads) (pmkI_f_marks : mkI o G f_marks nm ns) (pomI_f_oneMind : omI o G f_oneMind on nt) (pstI_f_states : stI o G f_states cv cmp) (psuI_f_subject : suI o G f_subject n m) (ppgI_0 : pgI o G 0 PG NR cv cmp on) (n18 : ab_n0 = 18) (hkq : kq6 sl k_) (cr : -2147483648 ≤ sl ∧ sl ≤ 2147483647) (jsp : rgs SP 20 (-1) 2000) (crw_a : 0 ≤ sz_a ∧ sz_a ≤ ↑mr_a ∧ ↑mr_a ≤ (4002 : Int) ∧ 32 ≤ mr_a) (rc : 64 * G.length + 4600000 ≤ 64 * (ab_n0 + room_1.cells) + (64 * nm + 64 * stC ns + nt + onP on)) (rs : ab_slots G + 2360000 ≤ room_1.slots + (zT nm 52026 + stT ns + 2 * nt + onS on)) (hd : 16 ≤ d) : ab_F X d y_PW_all (.code y_PW_all b_PW_all 5 (some (.int))) [vR w_, vz sl] G (fun oc G2 => (∃ o2 : Nat → Nat, ∃ b : Nat, oc = .threw b ∧ fx o o2 [18, 31, 71, 72, 32, 33, 35, 36, 37, 38, 39, 40, 44, 45, 46, 47, 50, 51, 52, 53, 54, 55, 56, 57, 60, 61, 62, 63, 64, 65, 66, 67, 68] G G2 ∧ cc o2 G2 w_ 18 (ab_ob 0 [vR f_ready, vR f_tape, vR f_reader, vR f_programs, vR f_subject, vR f_spans, vR f_threads, vR f_marks, vR f_oneMind, vR f_states, vR f_latest, vR f_matches, vR f_pieces, vR f_template, vR f_result, vR f_spare, vz cmp, vz ovs]) ∧ cc o2 G2 f_spans 31 (za 20 SP) ∧ cc o2 G2 f_matches 71 (ab_ob 7 [vz 4002, vR it_a, vz sz_a]) ∧ cc o2 G2 it_a 72 (za mr_a F_a) ∧ thI o2 G2 f_threads ∧ mkI o2 G2 f_marks nm ns ∧ omI o2 G2 f_oneMind on nt ∧ stI o2 G2 f_states cv cmp ∧ suI o2 G2 f_subject n m ∧ pgI o2 G2 0 PG NR cv cmp on ∧ (G2[b]? = some (.inr (13, []))) ∧ (G2.length = G.length + 1) ∧ (ab_slots G2 = ab_slots G + 6)) ∨ (∃ o2 : Nat → Nat, ∃ nm2 : Nat, ∃ ns2 : Nat, ∃ ov2 : Int, ∃ SP2 : Int → Int, ∃ r : Int, ∃ it2 : Nat, ∃ sz2 : Int, ∃ mr2 : Nat, ∃ F2 : Int → Int, oc = .returned (some (vz r)) ∧ fx o o2 [18, 31, 71, 72, 32, 33, 35, 36, 37, 38, 39, 40, 44, 45, 46, 47, 50, 51, 52, 53, 54, 55, 56, 57, 60, 61, 62, 63, 64, 65, 66, 67, 68] G G2 ∧ cc o2 G2 w_ 18 (ab_ob 0 [vR f_ready, vR f_tape, vR f_reader, vR f_programs, vR f_subject, vR f_spans, vR f_threads, vR f_marks, vR f_oneMind, vR f_states, vR f_latest, vR f_matches, vR f_pieces, vR f_template, vR f_result, vR f_spare, vz cmp, vz ov2]) ∧ cc o2 G2 f_spans 31 (za 20 SP2) ∧ cc o2 G2 f_matches 71 (ab_ob 7 [vz 4002, vR it2, vz sz2]) ∧ cc o2 G2 it2 72 (za mr2 F2) ∧ thI o2 G2 f_threads ∧ mkI o2 G2 f_marks nm2 ns2 ∧ omI o2 G2 f_oneMind on nt ∧ stI o2 G2 f_states cv cmp ∧ suI o2 G2 f_subject n m ∧ pgI o2 G2 0 PG NR cv cmp on ∧ (rgs SP2 20 (-1) 2000) ∧ (0 ≤ sz2 ∧ sz2 ≤ ↑mr2 ∧ ↑mr2 ≤ (4002 : Int) ∧ 32 ≤ mr2) ∧ (64 * G2.length + (64 * nm + 64 * stC ns + nt + onP on + 64 * mr_a) ≤ 64 * G.length + (64 * nm2 + 64 * stC ns2 + nt + onP on + 64 * mr2)) ∧ (ab_slots G2 + (zT nm 52026 + stT ns + 2 * nt + onS on + zT mr_a 4002) ≤ ab_slots G + (zT nm2 52026 + stT ns2 + 2 * nt + onS on + zT mr2 4002)))) := by
  refine ab_F_of (by decide +kernel) (Nat.le_of_ble_eq_true rfl) ?_
  obtain ⟨Q, hQ⟩ : ∃ z : Outcome → ab_G → Prop, z = (fun oc G2 => (∃ o2 : Nat → Nat, ∃ b : Nat, oc = .threw b ∧ fx o o2 [18, 31, 71, 72, 32, 33, 35, 36, 37, 38, 39, 40, 44, 45, 46, 47, 50, 51, 52, 53, 54, 55, 56, 57, 60, 61, 62, 63, 64, 65, 66, 67, 68] G G2 ∧ cc o2 G2 w_ 18 (ab_ob 0 [vR f_ready, vR f_tape, vR f_reader, vR f_programs, vR f_subject, vR f_spans, vR f_threads, vR f_marks, vR f_oneMind, vR f_states, vR f_latest, vR f_matches, vR f_pieces, vR f_template, vR f_result, vR f_spare, vz cmp, vz ovs]) ∧ cc o2 G2 f_spans 31 (za 20 SP) ∧ cc o2 G2 f_matches 71 (ab_ob 7 [vz 4002, vR it_a, vz sz_a]) ∧ cc o2 G2 it_a 72 (za mr_a F_a) ∧ thI o2 G2 f_threads ∧ mkI o2 G2 f_marks nm ns ∧ omI o2 G2 f_oneMind on nt ∧ stI o2 G2 f_states cv cmp ∧ suI o2 G2 f_subject n m ∧ pgI o2 G2 0 PG NR cv cmp on ∧ (G2[b]? = some (.inr (13, []))) ∧ (G2.length = G.length + 1) ∧ (ab_slots G2 = ab_slots G + 6)) ∨ (∃ o2 : Nat → Nat, ∃ nm2 : Nat, ∃ ns2 : Nat, ∃ ov2 : Int, ∃ SP2 : Int → Int, ∃ r : Int, ∃ it2 : Nat, ∃ sz2 : Int, ∃ mr2 : Nat, ∃ F2 : Int → Int, oc = .returned (some (vz r)) ∧ fx o o2 [18, 31, 71, 72, 32, 33, 35, 36, 37, 38, 39, 40, 44, 45, 46, 47, 50, 51, 52, 53, 54, 55, 56, 57, 60, 61, 62, 63, 64, 65, 66, 67, 68] G G2 ∧ cc o2 G2 w_ 18 (ab_ob 0 [vR f_ready, vR f_tape, vR f_reader, vR f_programs, vR f_subject, vR f_spans, vR f_threads, vR f_marks, vR f_oneMind, vR f_states, vR f_latest, vR f_matches, vR f_pieces, vR f_template, vR f_result, vR f_spare, vz cmp, vz ov2]) ∧ cc o2 G2 f_spans 31 (za 20 SP2) ∧ cc o2 G2 f_matches 71 (ab_ob 7 [vz 4002, vR it2, vz sz2]) ∧ cc o2 G2 it2 72 (za mr2 F2) ∧ thI o2 G2 f_threads ∧ mkI o2 G2 f_marks nm2 ns2 ∧ omI o2 G2 f_oneMind on nt ∧ stI o2 G2 f_states cv cmp ∧ suI o2 G2 f_subject n m ∧ pgI o2 G2 0 PG NR cv cmp on ∧ (rgs SP2 20 (-1) 2000) ∧ (0 ≤ sz2 ∧ sz2 ≤ ↑mr2 ∧ ↑mr2 ≤ (4002 : Int) ∧ 32 ≤ mr2) ∧ (64 * G2.length + (64 * nm + 64 * stC ns + nt + onP on + 64 * mr_a) ≤ 64 * G.length + (64 * nm2 + 64 * stC ns2 + nt + onP on + 64 * mr2)) ∧ (ab_slots G2 + (zT nm 52026 + stT ns + 2 * nt + onS on + zT mr_a 4002) ≤ ab_slots G + (zT nm2 52026 + stT ns2 + 2 * nt + onS on + zT mr2 4002)))) := ⟨_, rfl⟩
  rw [← hQ]
  change ab_W X (ab_pl y_PW_all b_PW_all 5 (some (.int))) d G 0 [some (vR w_), some (vz sl), none, none, none] [] Q
  have hfr : fx o o [18, 31, 71, 72, 32, 33, 35, 36, 37, 38, 39, 40, 44, 45, 46, 47, 50, 51, 52, 53, 54, 55, 56, 57, 60, 61, 62, 63, 64, 65, 66, 67, 68] G G := fx.rf
  have hq1 := stT_le ns
  have hq2 := stC_le ns
  have hq3 := onP_le on
  have hq4 := onS_le on
  have hnt_ := pomI_f_oneMind.nt
  have hnm_ := pmkI_f_marks.b
  have hzt_ : zT nm 52026 ≤ 156078 := zT_le (c := 52026) (by omega) rfl
  refine ab_aload_n d_PW_all_0 rfl ?_
  refine ab_iload_n d_PW_all_1 rfl ?_
  refine ab_callV (d' := d - 1) (as := [vz sl]) (st := []) (r := _) (z_PW_programAt (o := o) (w_ := w_) (f_ready := f_ready) (f_tape := f_tape) (f_reader := f_reader) (f_programs := f_programs) (f_subject := f_subject) (f_spans := f_spans) (f_threads := f_threads) (f_marks := f_marks) (f_oneMind := f_oneMind) (f_states := f_states) (f_latest := f_latest) (f_matches := f_matches) (f_pieces := f_pieces) (f_template := f_template) (f_result := f_result) (f_spare := f_spare) (cmp := cmp) (ovs := ovs) (PG := PG) (k := sl) hw_ hf_programs (by omega)) (fun oc G2 h => by rcases h with ⟨h, _⟩ | ⟨_, h, _⟩ <;> exact ⟨_, h⟩) (by omega) m_PW_programAt ml_PW_148 im_PW_programAt se_PW_programAt c_PW hw_.2.2 (Nat.le_of_ble_eq_true rfl) d_PW_all_2 rfl ?_
  intro v G5 hq
  rcases hq with ⟨hv, hGe⟩ | ⟨b6, hv, hGe, hq7, hq8⟩
  · cases hv
    rw [hGe]
    change ab_W _ _ _ G 5 [some (vR w_), some (vz sl), none, none, none] [vN] _
    refine ab_astore_nN d_PW_all_5 (Nat.le_of_ble_eq_true rfl) (Nat.le_of_ble_eq_true rfl) rfl ?_
    change ab_W _ _ _ G 6 [some (vR w_), some (vz sl), some (vN), none, none] [] _
    refine ab_aload_nN d_PW_all_6 rfl ?_
    refine ab_ifnonnullN d_PW_all_7 ?_
    refine ab_throw (tx := "no pattern there") (by decide) (fun c h => h) cl_PW_109 inst_IA ini_IA tw_PW_113 d_PW_all_10 d_PW_all_13 d_PW_all_14 d_PW_all_16 d_PW_all_19 (by omega) (by omega) (by omega) ?_
    obtain ⟨G9, eG9⟩ : ∃ z : ab_G, z = G ++ [.inr (13, [])] := ⟨_, rfl⟩
    obtain ⟨o10, eo10⟩ : ∃ z : Nat → Nat, z = ol o G.length 99 := ⟨_, rfl⟩
    obtain ⟨a11, ea11⟩ : ∃ z : Nat, z = G.length := ⟨_, rfl⟩
    have hq12 := hit_a.n0 (by first | decide | omega)
    have ne_a11_w_ : nq a11 w_ := by have hlt := hw_.lt; unfold nq; omega
    have ne_a11_f_spans : nq a11 f_spans := by have hlt := hf_spans.lt; unfold nq; omega
    have ne_a11_17 : nq a11 17 := by have hlt := h17.lt; unfold nq; omega
    have ne_a11_f_programs : nq a11 f_programs := by have hlt := hf_programs.lt; unfold nq; omega
    have ne_a11_f_matches : nq a11 f_matches := by have hlt := hf_matches.lt; unfold nq; omega
    have ne_a11_it_a : nq a11 it_a := by have hlt := hit_a.lt; unfold nq; omega
    have hw_ := hw_.akeep (k := 99) eG9
    rw [← eo10] at hw_
    have hf_spans := hf_spans.akeep (k := 99) eG9
    rw [← eo10] at hf_spans
    have h17 := h17.akeep (k := 99) eG9
    rw [← eo10] at h17
    have hf_programs := hf_programs.akeep (k := 99) eG9
    rw [← eo10] at hf_programs
    have hf_matches := hf_matches.akeep (k := 99) eG9
    rw [← eo10] at hf_matches
    have hit_a := hit_a.akeep (k := 99) eG9
    rw [← eo10] at hit_a
    have hst := (fx.rf (o := o) (S := []) (G := G)).ap (k := 99) eG9
    rw [← eo10] at hst
    have pthI_f_threads := thI.fr hst pthI_f_threads (by decide) (by decide) (by decide) (by decide) (by decide) (by decide) (by decide) (by decide)
    have pmkI_f_marks := mkI.fr hst pmkI_f_marks (by decide) (by decide) (by decide) (by decide)
    have pomI_f_oneMind := omI.fr hst pomI_f_oneMind (by decide) (by decide) (by decide) (by decide) (by decide) (by decide) (by decide) (by decide)
    have pstI_f_states := stI.fr hst pstI_f_states (by decide) (by decide) (by decide) (by decide) (by decide) (by decide) (by decide) (by decide) (by decide)
    have psuI_f_subject := suI.fr hst psuI_f_subject (by decide) (by decide) (by decide) (by decide) (by decide)
    have ppgI_0 := pgI.fr hst ppgI_0  (by simp)
    have ha11 := cc.anew (o := o) 99 eG9 hq12
    rw [← eo10, ← ea11] at ha11
    have hfr := hfr.ap (k := 99) eG9
    rw [← eo10] at hfr
    have hq13 := z_alen eG9
    have hq14 : ab_slots G9 = ab_slots G + 6 := z_asl eG9 hq12
    rw [← ea11, ← eG9]
    rw [hQ]; exact (Or.inl ⟨_, _, rfl, hfr, hw_, hf_spans, hf_matches, hit_a, pthI_f_threads, pmkI_f_marks, pomI_f_oneMind, pstI_f_states, psuI_f_subject, ppgI_0, (by exact ha11.2.2), (by omega), (by omega)⟩)
  · cases hv
    rw [hGe]
    change ab_W _ _ _ G 5 [some (vR w_), some (vz sl), none, none, none] [vR b6] _
    refine ab_astore_n d_PW_all_5 (Nat.le_of_ble_eq_true rfl) (Nat.le_of_ble_eq_true rfl) rfl ?_
    change ab_W _ _ _ G 6 [some (vR w_), some (vz sl), some (vR b6), none, none] [] _
    refine ab_aload_n d_PW_all_6 rfl ?_
    refine ab_ifnonnull (tgt := 20) d_PW_all_7 (by decide) ?_
    have hk_ := hkq.2 (by omega) (by omega)
    rw [← hk_] at hq7
    have hk6_ : k_ < 6 := by omega
    obtain ⟨⟨mi_, ppgB_b6⟩, ppgX_0⟩ := ppgI_0.opn hk6_ hq7
    obtain ⟨ki_g, ne_g, ot_g, cnt_g, fi_g, la_g, ra_g, ru_g, gr_g, wi_g, sz_g, fl_g, ve_g, na_g, nl_g, K_g, N_g, O_g, RR_g, NA_g, NL_g, hb6, hki_g, hne_g, hot_g, hra_g, hna_g, hnl_g, cq_g, hpu_g, hp_g, hr_g, hch_g, cru_g, ck9_g, cfi_g, cgr_g, cfl_g, hpo_g, hmi_g, hvc_g, cve_g, jnl_g⟩ := ppgB_b6
    obtain ⟨by_, co, re, ho, f, C, Rs, H, mc, hf_subject, hby_, hco, hre, hho, csu, hsu⟩ := psuI_f_subject
    refine ab_aload_n d_PW_all_20 rfl ?_
    refine ab_getf (fs := [vR f_ready, vR f_tape, vR f_reader, vR f_programs, vR f_subject, vR f_spans, vR f_threads, vR f_marks, vR f_oneMind, vR f_states, vR f_latest, vR f_matches, vR f_pieces, vR f_template, vR f_result, vR f_spare, vz cmp, vz ovs]) f_PW_76 d_PW_all_21 hw_.2.2 rfl ?_
    refine ab_callV (d' := d - 1) (as := []) (st := []) (r := _) (z_RW_clear (o := o) (r := f_matches) (b := it_a) (lr := 71) (lim := 4002) (sz := sz_a) hf_matches (by have h18 : ab_n0 = 18 := rfl; omega)) (fun oc G2 h => by rcases h with ⟨h, _⟩ <;> exact ⟨_, h⟩) (by omega) m_RW_clear ml_PW_120 im_RW_clear se_RW_clear c_RW hf_matches.2.2 (Nat.le_of_ble_eq_true rfl) d_PW_all_24 rfl ?_
    intro v G15 hq
    rcases hq with ⟨hv, hfk, hlk, hsk, hNf_matches⟩
    cases hv
    have hw_ := hfk.get hw_ (by decide)
    have hf_spans := hfk.get hf_spans (by decide)
    have h17 := hfk.get h17 (by decide)
    have hf_programs := hfk.get hf_programs (by decide)
    have hit_a := hfk.get hit_a (by decide)
    have hb6 := hfk.get hb6 (by simp only [List.mem_cons, List.not_mem_nil, or_false]; omega)
    have hki_g := hfk.get hki_g (by simp only [List.mem_cons, List.not_mem_nil, or_false]; omega)
    have hne_g := hfk.get hne_g (by simp only [List.mem_cons, List.not_mem_nil, or_false]; omega)
    have hot_g := hfk.get hot_g (by simp only [List.mem_cons, List.not_mem_nil, or_false]; omega)
    have hra_g := hfk.get hra_g (by simp only [List.mem_cons, List.not_mem_nil, or_false]; omega)
    have hna_g := hfk.get hna_g (by simp only [List.mem_cons, List.not_mem_nil, or_false]; omega)
    have hnl_g := hfk.get hnl_g (by simp only [List.mem_cons, List.not_mem_nil, or_false]; omega)
    have hf_subject := hfk.get hf_subject (by decide)
    have hby_ := hfk.get hby_ (by decide)
    have hco := hfk.get hco (by decide)
    have hre := hfk.get hre (by decide)
    have hho := hfk.get hho (by decide)
    have pthI_f_threads := thI.fr hfk pthI_f_threads (by decide) (by decide) (by decide) (by decide) (by decide) (by decide) (by decide) (by decide)
    have pmkI_f_marks := mkI.fr hfk pmkI_f_marks (by decide) (by decide) (by decide) (by decide)
    have pomI_f_oneMind := omI.fr hfk pomI_f_oneMind (by decide) (by decide) (by decide) (by decide) (by decide) (by decide) (by decide) (by decide)
    have pstI_f_states := stI.fr hfk pstI_f_states (by decide) (by decide) (by decide) (by decide) (by decide) (by decide) (by decide) (by decide) (by decide)
    have ppgX_0 := pgX.fr hfk ppgX_0 (fun xx hx => Or.inl ((show ∀ y ∈ ([71] : List Nat), y < 100 by decide) xx hx))
    have hfr := hfr.tr hfk (by decide)
    have hq16 := hlk
    have hq17 := hsk
    have hf_matches := hNf_matches
    change ab_W _ _ _ G15 27 [some (vR w_), some (vz sl), some (vR b6), none, none] [] _
    refine zz_iconst d_PW_all_27 ?_
    refine ab_istore_n d_PW_all_28 (Nat.le_of_ble_eq_true rfl) (Nat.le_of_ble_eq_true rfl) rfl ?_
    change ab_W _ _ _ G15 29 [some (vR w_), some (vz sl), some (vR b6), some (vz (-1)), none] [] _
    refine ab_aload_n d_PW_all_29 rfl ?_
    refine ab_getf (fs := [vR f_ready, vR f_tape, vR f_reader, vR f_programs, vR f_subject, vR f_spans, vR f_threads, vR f_marks, vR f_oneMind, vR f_states, vR f_latest, vR f_matches, vR f_pieces, vR f_template, vR f_result, vR f_spare, vz cmp, vz ovs]) f_PW_55 d_PW_all_30 hw_.2.2 rfl ?_
    refine ab_aload_n d_PW_all_33 rfl ?_
    refine ab_aload_n d_PW_all_34 rfl ?_
    refine ab_getf (fs := [vR f_ready, vR f_tape, vR f_reader, vR f_programs, vR f_subject, vR f_spans, vR f_threads, vR f_marks, vR f_oneMind, vR f_states, vR f_latest, vR f_matches, vR f_pieces, vR f_template, vR f_result, vR f_spare, vz cmp, vz ovs]) f_PW_38 d_PW_all_35 hw_.2.2 rfl ?_
    refine zz_iconst d_PW_all_38 ?_
    refine zz_iconst d_PW_all_39 ?_
    refine ab_aload_n d_PW_all_40 rfl ?_
    refine ab_getf (fs := [vR f_ready, vR f_tape, vR f_reader, vR f_programs, vR f_subject, vR f_spans, vR f_threads, vR f_marks, vR f_oneMind, vR f_states, vR f_latest, vR f_matches, vR f_pieces, vR f_template, vR f_result, vR f_spare, vz cmp, vz ovs]) f_PW_42 d_PW_all_41 hw_.2.2 rfl ?_
    obtain ⟨wk_k, mk_k, stk_k, w_k, df_k, dp_k, fo_k, fy_k, hw_k, stp_k, WK_k, M_k, SK_k, sp0_k, q0_k, s0_k, hf_marks, hwk_k, hmk_k, hstk_k, cn_k, hst_k, cfo_k⟩ := pmkI_f_marks
    refine ab_callV (d' := d - 1) (as := [vR b6, vR f_subject, vz 0, vz 0, vR f_spans]) (st := []) (r := _) (z_MK_begin (o := o) (q := b6) (lq := (100 + 10 * k_)) (ki := ki_g) (ne := ne_g) (ot := ot_g) (cnt := cnt_g) (fi := fi_g) (la := la_g) (ra := ra_g) (ru := ru_g) (gr := gr_g) (wi := wi_g) (sz := sz_g) (fl := fl_g) (ve := ve_g) (mi := mi_) (na := na_g) (nl := nl_g) (s := f_subject) (by_ := by_) (co := co) (re := re) (ho := ho) (n := n) (a := f_marks) (sp := f_spans) (wk := wk_k) (mk := mk_k) (stk := stk_k) (dp := dp_k) (fo := fo_k) (hw := 0) (stp := stp_k) (M := M_k) (nm := nm) (q0 := q0_k) (s0 := s0_k) (sp0 := sp0_k) (from_ := 0) (hw0 := hw_k) (fy0 := fy_k) (w0 := w_k) (df0 := df_k) hf_marks hmk_k hb6 hf_subject (by omega) (by omega) (by omega) (by omega) (by omega) (by omega) (by omega)) (fun oc G2 h => by rcases h with ⟨_, _, _, _, _, _, h, _⟩ <;> exact ⟨_, h⟩) (by omega) m_MK_begin ml_PW_189 im_MK_begin se_MK_begin c_MK hf_marks.2.2 (Nat.le_of_ble_eq_true rfl) d_PW_all_44 rfl ?_
    intro v G18 hq
    rcases hq with ⟨o19, w220, fy221, mk222, nm223, M224, hv, hfk, hNf_marks, hNmk222, hq25, hq26, hq27, hq28, hq29, hq30, hq31⟩
    cases hv
    have hw_ := hfk.get hw_ (by decide)
    have hf_spans := hfk.get hf_spans (by decide)
    have h17 := hfk.get h17 (by decide)
    have hf_programs := hfk.get hf_programs (by decide)
    have hf_matches := hfk.get hf_matches (by decide)
    have hit_a := hfk.get hit_a (by decide)
    have hb6 := hfk.get hb6 (by simp only [List.mem_cons, List.not_mem_nil, or_false]; omega)
    have hki_g := hfk.get hki_g (by simp only [List.mem_cons, List.not_mem_nil, or_false]; omega)
    have hne_g := hfk.get hne_g (by simp only [List.mem_cons, List.not_mem_nil, or_false]; omega)
    have hot_g := hfk.get hot_g (by simp only [List.mem_cons, List.not_mem_nil, or_false]; omega)
    have hra_g := hfk.get hra_g (by simp only [List.mem_cons, List.not_mem_nil, or_false]; omega)
    have hna_g := hfk.get hna_g (by simp only [List.mem_cons, List.not_mem_nil, or_false]; omega)
    have hnl_g := hfk.get hnl_g (by simp only [List.mem_cons, List.not_mem_nil, or_false]; omega)
    have hf_subject := hfk.get hf_subject (by decide)
    have hby_ := hfk.get hby_ (by decide)
    have hco := hfk.get hco (by decide)
    have hre := hfk.get hre (by decide)
    have hho := hfk.get hho (by decide)
    have hwk_k := hfk.get hwk_k (by decide)
    have hstk_k := hfk.get hstk_k (by decide)
    have pthI_f_threads := thI.fr hfk pthI_f_threads (by decide) (by decide) (by decide) (by decide) (by decide) (by decide) (by decide) (by decide)
    have pomI_f_oneMind := omI.fr hfk pomI_f_oneMind (by decide) (by decide) (by decide) (by decide) (by decide) (by decide) (by decide) (by decide)
    have pstI_f_states := stI.fr hfk pstI_f_states (by decide) (by decide) (by decide) (by decide) (by decide) (by decide) (by decide) (by decide) (by decide)
    have ppgX_0 := pgX.fr hfk ppgX_0 (fun xx hx => Or.inl ((show ∀ y ∈ ([44, 46] : List Nat), y < 100 by decide) xx hx))
    have hfr := hfr.tr hfk (by decide)
    have hq32 := hfk.1
    have hf_marks := hNf_marks
    have hmk222 := hNmk222
    change ab_W _ _ _ G18 47 [some (vR w_), some (vz sl), some (vR b6), some (vz (-1)), none] [] _
    have pmkB_f_marks : mkB o19 G18 f_marks b6 f_subject f_spans nm223 ns cnt_g n := ⟨wk_k, mk222, stk_k, w220, 0, dp_k, fo_k, fy221, 0, stp_k, WK_k, M224, SK_k, hf_marks, hwk_k, hmk222, hstk_k, (by omega), hst_k, (by omega), (by omega), (by omega), (by omega)⟩
    have hzt2_ : zT nm223 52026 ≤ 156078 := zT_le (c := 52026) (by omega) rfl
    refine zz_iconst d_PW_all_47 ?_
    refine ab_istore d_PW_all_48 (Nat.le_of_ble_eq_true rfl) (Nat.le_of_ble_eq_true rfl) rfl ?_
    change ab_W _ _ _ G18 50 [some (vR w_), some (vz sl), some (vR b6), some (vz (-1)), some (vz 0)] [] _
    refine ab_less (L' := [some (vR w_), none, some (vR b6), some (vz (-1)), some (vz 0)]) (fun i v h => by rcases i with _ | _ | _ | _ | _ | i <;> first | exact h | (simp at h)) ?_
    refine y_PW_all_50 (w_ := w_) (f_ready := f_ready) (f_tape := f_tape) (f_reader := f_reader) (f_programs := f_programs) (f_subject := f_subject) (f_spans := f_spans) (f_threads := f_threads) (f_marks := f_marks) (f_oneMind := f_oneMind) (f_states := f_states) (f_latest := f_latest) (f_matches := f_matches) (f_pieces := f_pieces) (f_template := f_template) (f_result := f_result) (f_spare := f_spare) (cmp := cmp) (ovs := ovs) (q := b6) (lq := (100 + 10 * k_)) (ki := ki_g) (ne := ne_g) (ot := ot_g) (cnt := cnt_g) (fi := fi_g) (la := la_g) (ra := ra_g) (ru := ru_g) (gr := gr_g) (wi := wi_g) (sz := sz_g) (fl := fl_g) (ve := ve_g) (mi := mi_) (K := K_g) (N := N_g) (O := O_g) (RR := RR_g) (nr := (NR k_)) (na := na_g) (nl := nl_g) (nm := nm223) (n := n) (by_ := by_) (co := co) (re := re) (ho := ho) (C := C) (Rs := Rs) (H := H) (mc := mc) (ns0 := ns) (mr0 := mr_a) (G0 := G18) (ns := ns) (SP := SP) (it_a := it_a) (sz_a := 0) (mr_a := mr_a) (F_a := F_a) (bf := (-1)) (tu := 0) (by omega) (by omega) hp_g hr_g (by omega) (by omega) (by omega) hsu (by omega) (by omega) (by omega) (Int.toNat (n + 1 - 0) + 1) hw_ hf_spans hb6 hki_g hne_g hot_g hra_g hf_subject hco hre hho hf_matches hit_a pmkB_f_marks (by omega) jsp (by omega) (by omega) (by omega) fx.rf (by omega) (fun G33 o34 ns235 SP236 it237 sz238 mr239 F240 hNf_spans hNf_matches hNit237 pNmkB_f_marks hq41 hq42 hq43 hq44 hfk => ?_)
    · have hw_ := hfk.get hw_ (by decide)
      have h17 := hfk.get h17 (by decide)
      have hf_programs := hfk.get hf_programs (by decide)
      have hb6 := hfk.get hb6 (by simp only [List.mem_cons, List.not_mem_nil, or_false]; omega)
      have hki_g := hfk.get hki_g (by simp only [List.mem_cons, List.not_mem_nil, or_false]; omega)
      have hne_g := hfk.get hne_g (by simp only [List.mem_cons, List.not_mem_nil, or_false]; omega)
      have hot_g := hfk.get hot_g (by simp only [List.mem_cons, List.not_mem_nil, or_false]; omega)
      have hra_g := hfk.get hra_g (by simp only [List.mem_cons, List.not_mem_nil, or_false]; omega)
      have hna_g := hfk.get hna_g (by simp only [List.mem_cons, List.not_mem_nil, or_false]; omega)
      have hnl_g := hfk.get hnl_g (by simp only [List.mem_cons, List.not_mem_nil, or_false]; omega)
      have hf_subject := hfk.get hf_subject (by decide)
      have hby_ := hfk.get hby_ (by decide)
      have hco := hfk.get hco (by decide)
      have hre := hfk.get hre (by decide)
      have hho := hfk.get hho (by decide)
      have pthI_f_threads := thI.fr hfk pthI_f_threads (by decide) (by decide) (by decide) (by decide) (by decide) (by decide) (by decide) (by decide)
      have pomI_f_oneMind := omI.fr hfk pomI_f_oneMind (by decide) (by decide) (by decide) (by decide) (by decide) (by decide) (by decide) (by decide)
      have pstI_f_states := stI.fr hfk pstI_f_states (by decide) (by decide) (by decide) (by decide) (by decide) (by decide) (by decide) (by decide) (by decide)
      have ppgX_0 := pgX.fr hfk ppgX_0 (fun xx hx => Or.inl ((show ∀ y ∈ ([31, 44, 45, 46, 47, 71, 72] : List Nat), y < 100 by decide) xx hx))
      have hfr := hfr.tr hfk (by decide)
      have hq45 := hfk.1
      have hf_spans := hNf_spans
      have hf_matches := hNf_matches
      have hit237 := hNit237
      have pmkB_f_marks := pNmkB_f_marks
      change ab_W _ _ _ G33 111 [some (vR w_), none, some (vR b6), none, none] [] _
      obtain ⟨wk_e, mk_e, stk_e, w_e, df_e, dp_e, fo_e, fy_e, hw_e, stp_e, WK_e, M_e, SK_e, hf_marks, hwk_e, hmk_e, hstk_e, cn_e, hst_e, cf_e, cw_e, cm_e, cd_e⟩ := pmkB_f_marks
      have pmkI_f_marks : mkI o34 G33 f_marks nm223 ns235 := ⟨wk_e, mk_e, stk_e, w_e, df_e, dp_e, fo_e, fy_e, hw_e, stp_e, WK_e, M_e, SK_e, vR f_spans, vR b6, vR f_subject, hf_marks, hwk_e, hmk_e, hstk_e, (by omega), hst_e, (by omega)⟩
      have hq46 := stT_le ns235
      have hq47 := stC_le ns235
      have hq48 := onP_le on
      have hq49 := onS_le on
      have hz50 : zT mr239 4002 ≤ 12006 := zT_le (c := 4002) (by omega) rfl
      refine ab_aload_n d_PW_all_111 rfl ?_
      refine ab_aload_n d_PW_all_112 rfl ?_
      refine ab_getf (fs := [vR ki_g, vR ne_g, vR ot_g, vz cnt_g, vz fi_g, vz la_g, vR ra_g, vz ru_g, vz gr_g, vz wi_g, vz sz_g, vz fl_g, vz ve_g, vz mi_, vR na_g, vR nl_g]) f_PW_152 d_PW_all_113 hb6.2.2 rfl ?_
      refine ab_aload_n d_PW_all_116 rfl ?_
      refine ab_getf (fs := [vR f_ready, vR f_tape, vR f_reader, vR f_programs, vR f_subject, vR f_spans, vR f_threads, vR f_marks, vR f_oneMind, vR f_states, vR f_latest, vR f_matches, vR f_pieces, vR f_template, vR f_result, vR f_spare, vz cmp, vz ovs]) f_PW_76 d_PW_all_117 hw_.2.2 rfl ?_
      refine ab_getf (fs := [vz 4002, vR it237, vz sz238]) f_PW_101 d_PW_all_120 hf_matches.2.2 rfl ?_
      refine zz_iconst d_PW_all_123 ?_
      refine zz_idiv d_PW_all_124 (by omega) ?_
      have psuI_f_subject : suI o34 G33 f_subject n m := ⟨by_, co, re, ho, f, C, Rs, H, mc, hf_subject, hby_, hco, hre, hho, (by omega), hsu⟩
      refine ab_callV (d' := d - 1) (as := [vz sz_g, vz (sz238 / 2)]) (st := []) (r := _) (z_PW_settle (o := o34) (w_ := w_) (f_ready := f_ready) (f_tape := f_tape) (f_reader := f_reader) (f_programs := f_programs) (f_subject := f_subject) (f_spans := f_spans) (f_threads := f_threads) (f_marks := f_marks) (f_oneMind := f_oneMind) (f_states := f_states) (f_latest := f_latest) (f_matches := f_matches) (f_pieces := f_pieces) (f_template := f_template) (f_result := f_result) (f_spare := f_spare) (cmp := cmp) (ovs := ovs) (cv := cv) (on := on) (nm := nm223) (ns := ns235) (nt := nt) (n := n) (m := m) (z1 := sz_g) (z2 := (sz238 / 2)) hw_ pthI_f_threads pmkI_f_marks pomI_f_oneMind pstI_f_states psuI_f_subject (by omega) (by omega) (by omega)) (fun oc G2 h => by rcases h with ⟨_, h, _⟩ <;> exact ⟨_, h⟩) (by omega) m_PW_settle ml_PW_175 im_PW_settle se_PW_settle c_PW hw_.2.2 (Nat.le_of_ble_eq_true rfl) d_PW_all_125 rfl ?_
      intro v G51 hq
      rcases hq with ⟨ov252, hv, hfk, hlk, hsk, hNw_, pNthI_f_threads, pNmkI_f_marks, pNomI_f_oneMind, pNstI_f_states, pNsuI_f_subject⟩
      cases hv
      have hf_spans := hfk.get hf_spans (by decide)
      have h17 := hfk.get h17 (by decide)
      have hf_programs := hfk.get hf_programs (by decide)
      have hf_matches := hfk.get hf_matches (by decide)
      have hb6 := hfk.get hb6 (by simp only [List.mem_cons, List.not_mem_nil, or_false]; omega)
      have hki_g := hfk.get hki_g (by simp only [List.mem_cons, List.not_mem_nil, or_false]; omega)
      have hne_g := hfk.get hne_g (by simp only [List.mem_cons, List.not_mem_nil, or_false]; omega)
      have hot_g := hfk.get hot_g (by simp only [List.mem_cons, List.not_mem_nil, or_false]; omega)
      have hra_g := hfk.get hra_g (by simp only [List.mem_cons, List.not_mem_nil, or_false]; omega)
      have hna_g := hfk.get hna_g (by simp only [List.mem_cons, List.not_mem_nil, or_false]; omega)
      have hnl_g := hfk.get hnl_g (by simp only [List.mem_cons, List.not_mem_nil, or_false]; omega)
      have hit237 := hfk.get hit237 (by decide)
      have ppgX_0 := pgX.fr hfk ppgX_0 (fun xx hx => Or.inl ((show ∀ y ∈ ([18, 32, 44, 50, 60] : List Nat), y < 100 by decide) xx hx))
      have pthI_f_threads := pNthI_f_threads
      have pmkI_f_marks := pNmkI_f_marks
      have pomI_f_oneMind := pNomI_f_oneMind
      have pstI_f_states := pNstI_f_states
      have psuI_f_subject := pNsuI_f_subject
      have hfr := hfr.tr hfk (by decide)
      have hq53 := hlk
      have hq54 := hsk
      have hw_ := hNw_
      change ab_W _ _ _ G51 128 [some (vR w_), none, some (vR b6), none, none] [] _
      refine ab_aload_n d_PW_all_128 rfl ?_
      refine ab_getf (fs := [vR f_ready, vR f_tape, vR f_reader, vR f_programs, vR f_subject, vR f_spans, vR f_threads, vR f_marks, vR f_oneMind, vR f_states, vR f_latest, vR f_matches, vR f_pieces, vR f_template, vR f_result, vR f_spare, vz cmp, vz ov252]) f_PW_76 d_PW_all_129 hw_.2.2 rfl ?_
      refine ab_getf (fs := [vz 4002, vR it237, vz sz238]) f_PW_101 d_PW_all_132 hf_matches.2.2 rfl ?_
      refine zz_iconst d_PW_all_135 ?_
      refine zz_idiv d_PW_all_136 (by omega) ?_
      have hmq_ : onq mi_ on := hmi_g
      have ppgB_b6 : pgB o34 G51 b6 (100 + 10 * k_) (NR k_) cv cmp on mi_ := ⟨ki_g, ne_g, ot_g, cnt_g, fi_g, la_g, ra_g, ru_g, gr_g, wi_g, sz_g, fl_g, ve_g, na_g, nl_g, K_g, N_g, O_g, RR_g, NA_g, NL_g, hb6, hki_g, hne_g, hot_g, hra_g, hna_g, hnl_g, (by omega), hpu_g, hp_g, hr_g, hch_g, (by omega), (by omega), (by omega), (by omega), (by omega), hpo_g, hmq_, (by omega), (by omega), jnl_g⟩
      have ppgI_0 := ppgX_0.cls hq7 ppgB_b6
      refine zz_iret rfl d_PW_all_137 ?_
      rw [hQ]; exact (Or.inr ⟨_, _, _, _, _, _, _, _, _, _, rfl, hfr, hw_, hf_spans, hf_matches, hit237, pthI_f_threads, pmkI_f_marks, pomI_f_oneMind, pstI_f_states, psuI_f_subject, ppgI_0, (by exact hq41), (by omega), (by omega), (by omega)⟩)
set_option maxRecDepth 100000 in
set_option maxHeartbeats 4000000 in
theorem y_PW_split_62 {X : ab_X} {d : Nat} {Q : Outcome → ab_G → Prop} {o0 : Nat → Nat} {G0 : ab_G} {w_ : Nat} {f_ready : Nat} {f_tape : Nat} {f_reader : Nat} {f_programs : Nat} {f_subject : Nat} {f_spans : Nat} {f_threads : Nat} {f_marks : Nat} {f_oneMind : Nat} {f_states : Nat} {f_latest : Nat} {f_matches : Nat} {f_pieces : Nat} {f_template : Nat} {f_result : Nat} {f_spare : Nat} {cmp : Int} {ovs : Int} {q : Nat} {lq : Nat} {ki : Nat} {ne : Nat} {ot : Nat} {cnt : Int} {fi : Int} {la : Int} {ra : Nat} {ru : Int} {gr : Int} {wi : Int} {sz : Int} {fl : Int} {ve : Int} {mi : Int} {K : Int → Int} {N : Int → Int} {O : Int → Int} {RR : Int → Int} {nr : Nat} {na : Nat} {nl : Nat} {nm : Nat} {n : Int} {m : Nat} {by_ : Nat} {co : Nat} {re : Nat} {ho : Nat} {f : Int → Int} {C : Int → Int} {Rs : Int → Int} {H : Int → Int} {mc : Nat} {ns0 : Nat} {mr0 : Nat} (n18 : ab_n0 = 18) (cq : 100 ≤ lq ∧ 2 ≤ cnt ∧ cnt ≤ 808 ∧ ↑nr ≤ (100000 : Int)) (hp : prok K N O RR cnt ↑nr wi) (hr : ∀ k : Int, 0 ≤ k → k < ↑nr → 0 ≤ RR k ∧ RR k ≤ 1114111) (cfi : 0 ≤ fi ∧ fi < cnt) (cwi : 2 ≤ wi ∧ wi ≤ 20) (csu : 0 ≤ n ∧ n ≤ ↑m ∧ 32 ≤ m ∧ m ≤ 2000 ∧ mc = m + 1) (hsu : suok f C Rs H n) (rc : G0.length + 4500 ≤ ab_n0 + room_1.cells) (rs : ab_slots G0 + 1940000 ≤ room_1.slots + stT ns0 + zT mr0 4004) (hd : 11 ≤ d) : ∀ (mz : Nat) {G : ab_G} {o : Nat → Nat} {ns : Nat} {SP : Int → Int} {it_a : Nat} {sz_a : Int} {mr_a : Nat} {F_a : Int → Int} {bf : Int} {tu : Int} {ct_ : Int}, (cc o G w_ 18 (ab_ob 0 [vR f_ready, vR f_tape, vR f_reader, vR f_programs, vR f_subject, vR f_spans, vR f_threads, vR f_marks, vR f_oneMind, vR f_states, vR f_latest, vR f_matches, vR f_pieces, vR f_template, vR f_result, vR f_spare, vz cmp, vz ovs])) → (cc o G f_spans 31 (za 20 SP)) → (cc o G q lq (ab_ob 5 [vR ki, vR ne, vR ot, vz cnt, vz fi, vz la, vR ra, vz ru, vz gr, vz wi, vz sz, vz fl, vz ve, vz mi, vR na, vR nl])) → (cc o G ki (lq + 1) (za 808 K)) → (cc o G ne (lq + 2) (za 808 N)) → (cc o G ot (lq + 3) (za 808 O)) → (cc o G ra (lq + 4) (za nr RR)) → (cc o G f_subject 26 (ab_ob 9 [vR by_, vR co, vR re, vR ho, vz n])) → (cc o G co 28 (za mc C)) → (cc o G re 29 (za mc Rs)) → (cc o G ho 30 (za mc H)) → (cc o G f_pieces 73 (ab_ob 7 [vz 4004, vR it_a, vz sz_a])) → (cc o G it_a 74 (za mr_a F_a)) → (mkB o G f_marks q f_subject f_spans nm ns cnt n) → (0 ≤ tu ∧ tu ≤ n + 1 ∧ -1 ≤ bf ∧ bf ≤ n ∧ 0 ≤ ct_ ∧ ct_ ≤ tu) → (rgs SP 20 (-1) 2000) → (0 ≤ sz_a ∧ sz_a ≤ ↑mr_a ∧ ↑mr_a ≤ (4004 : Int) ∧ 32 ≤ mr_a) → (G.length + stC ns0 + mr0 ≤ G0.length + stC ns + mr_a) → (ab_slots G + stT ns0 + zT mr0 4004 ≤ ab_slots G0 + stT ns + zT mr_a 4004) → (fx o0 o [31, 44, 45, 46, 47, 73, 74] G0 G) → (Int.toNat (n + 1 - tu) < mz) → (∀ (G2 : ab_G) (o2 : Nat → Nat) (ns2 : Nat) (SP2 : Int → Int) (ct2 : Int) (it2 : Nat) (sz2 : Int) (mr2 : Nat) (F2 : Int → Int), (cc o2 G2 f_spans 31 (za 20 SP2)) → (cc o2 G2 f_pieces 73 (ab_ob 7 [vz 4004, vR it2, vz sz2])) → (cc o2 G2 it2 74 (za mr2 F2)) → (mkB o2 G2 f_marks q f_subject f_spans nm ns2 cnt n) → (rgs SP2 20 (-1) 2000) → (0 ≤ sz2 ∧ sz2 ≤ ↑mr2 ∧ ↑mr2 ≤ (4004 : Int) ∧ 32 ≤ mr2) → (G2.length + stC ns0 + mr0 ≤ G0.length + stC ns2 + mr2) → (ab_slots G2 + stT ns0 + zT mr0 4004 ≤ ab_slots G0 + stT ns2 + zT mr2 4004) → (0 ≤ ct2 ∧ ct2 ≤ 2001) → (fx o0 o2 [31, 44, 45, 46, 47, 73, 74] G0 G2) → ab_W X (ab_pl y_PW_split b_PW_split 7 (some (.int))) d G2 178 [some (vR w_), none, some (vR q), none, some (vz ct2), none, none] [] Q) → ab_W X (ab_pl y_PW_split b_PW_split 7 (some (.int))) d G 62 [some (vR w_), none, some (vR q), some (vz bf), some (vz ct_), some (vz tu), none] [] Q := by
  intro mz
  induction mz with
  | zero => intro G o ns SP it_a sz_a mr_a F_a bf tu ct_ hw_ hf_spans hq hki hne hot hra hf_subject hco hre hho hf_pieces hit_a pmkB_f_marks ci jsp crw_a hg hs hfr hm hk0; exact absurd hm (Nat.not_lt_zero _)
  | succ mz ih =>
    intro G o ns SP it_a sz_a mr_a F_a bf tu ct_ hw_ hf_spans hq hki hne hot hra hf_subject hco hre hho hf_pieces hit_a pmkB_f_marks ci jsp crw_a hg hs hfr hm hk0
    have hq1 := stT_le ns
    have hq2 := stC_le ns
    have hza_ : zT mr_a 4004 ≤ 12012 := zT_le (c := 4004) (by omega) rfl
    refine ab_iload d_PW_split_62 rfl ?_
    refine ab_aload_n d_PW_split_64 rfl ?_
    refine ab_getf (fs := [vR f_ready, vR f_tape, vR f_reader, vR f_programs, vR f_subject, vR f_spans, vR f_threads, vR f_marks, vR f_oneMind, vR f_states, vR f_latest, vR f_matches, vR f_pieces, vR f_template, vR f_result, vR f_spare, vz cmp, vz ovs]) f_PW_38 d_PW_split_65 hw_.2.2 rfl ?_
    refine ab_getf (fs := [vR by_, vR co, vR re, vR ho, vz n]) f_PW_164 d_PW_split_68 hf_subject.2.2 rfl ?_
    refine zz_icmp_gt (tgt := 178) d_PW_split_71 (by decide) (by omega) (by omega) (fun c3 => ?_) (fun c3 => ?_)
    · refine ab_less (L' := [some (vR w_), none, some (vR q), none, some (vz ct_), none, none]) (fun i v h => by rcases i with _ | _ | _ | _ | _ | _ | _ | i <;> first | exact h | (simp at h)) ?_
      exact hk0 _ _ _ _ _ _ _ _ _ hf_spans hf_pieces hit_a pmkB_f_marks (by exact jsp) (by omega) (by omega) (by omega) (by omega) hfr
    · refine ab_aload_n d_PW_split_74 rfl ?_
      refine ab_iload_n d_PW_split_75 rfl ?_
      refine ab_callV (d' := d - 1) (as := [vz bf]) (st := []) (r := _) (z_PW_hunt (o := o) (w_ := w_) (f_ready := f_ready) (f_tape := f_tape) (f_reader := f_reader) (f_programs := f_programs) (f_subject := f_subject) (f_spans := f_spans) (f_threads := f_threads) (f_marks := f_marks) (f_oneMind := f_oneMind) (f_states := f_states) (f_latest := f_latest) (f_matches := f_matches) (f_pieces := f_pieces) (f_template := f_template) (f_result := f_result) (f_spare := f_spare) (cmp := cmp) (ovs := ovs) (q := q) (lq := lq) (ki := ki) (ne := ne) (ot := ot) (cnt := cnt) (fi := fi) (la := la) (ra := ra) (ru := ru) (gr := gr) (wi := wi) (sz := sz) (fl := fl) (ve := ve) (mi := mi) (K := K) (N := N) (O := O) (RR := RR) (nr := nr) (na := na) (nl := nl) (nm := nm) (ns := ns) (n := n) (SP := SP) (by_ := by_) (co := co) (re := re) (ho := ho) (C := C) (Rs := Rs) (H := H) (mc := mc) (bf := bf) hw_ hf_spans hq hki hne hot hra hf_subject hco hre hho pmkB_f_marks (by omega) (by omega) hp hr (by omega) (by omega) (by omega) hsu jsp (by omega) (by omega) (by omega) (by omega)) (fun oc G2 h => by rcases h with ⟨_, _, _, h, _⟩ | ⟨_, _, _, h, _⟩ <;> exact ⟨_, h⟩) (by omega) m_PW_hunt ml_PW_193 im_PW_hunt se_PW_hunt c_PW hw_.2.2 (Nat.le_of_ble_eq_true rfl) d_PW_split_76 rfl ?_
      intro v G4 hq
      rcases hq with ⟨o5, ns26, SP27, hv, hfk, hNf_spans, pNmkB_f_marks, hq8, hq9, hq10⟩ | ⟨o11, ns212, SP213, hv, hfk, hNf_spans, pNmkB_f_marks, hq14, hq15, hq16, hq17, hq18⟩
      · cases hv
        have hw_ := hfk.get hw_ (by decide)
        have hq := hfk.get hq (by simp only [List.mem_cons, List.not_mem_nil, or_false]; omega)
        have hki := hfk.get hki (by simp only [List.mem_cons, List.not_mem_nil, or_false]; omega)
        have hne := hfk.get hne (by simp only [List.mem_cons, List.not_mem_nil, or_false]; omega)
        have hot := hfk.get hot (by simp only [List.mem_cons, List.not_mem_nil, or_false]; omega)
        have hra := hfk.get hra (by simp only [List.mem_cons, List.not_mem_nil, or_false]; omega)
        have hf_subject := hfk.get hf_subject (by decide)
        have hco := hfk.get hco (by decide)
        have hre := hfk.get hre (by decide)
        have hho := hfk.get hho (by decide)
        have hf_pieces := hfk.get hf_pieces (by decide)
        have hit_a := hfk.get hit_a (by decide)
        have pmkB_f_marks := pNmkB_f_marks
        have hfr := hfr.tr hfk (by decide)
        have hq19 := hfk.1
        have hf_spans := hNf_spans
        change ab_W _ _ _ G4 79 [some (vR w_), none, some (vR q), some (vz bf), some (vz ct_), some (vz tu), none] [vz 0] _
        refine zz_if_eq (tgt := 178) d_PW_split_79 (by decide) (by decide) (fun c21 => ?_) (fun c21 => absurd c21 (by decide))
        refine ab_less (L' := [some (vR w_), none, some (vR q), none, some (vz ct_), none, none]) (fun i v h => by rcases i with _ | _ | _ | _ | _ | _ | _ | i <;> first | exact h | (simp at h)) ?_
        exact hk0 _ _ _ _ _ _ _ _ _ hf_spans hf_pieces hit_a pmkB_f_marks (by exact hq8) (by omega) (by omega) (by omega) (by omega) hfr
      · cases hv
        have hw_ := hfk.get hw_ (by decide)
        have hq := hfk.get hq (by simp only [List.mem_cons, List.not_mem_nil, or_false]; omega)
        have hki := hfk.get hki (by simp only [List.mem_cons, List.not_mem_nil, or_false]; omega)
        have hne := hfk.get hne (by simp only [List.mem_cons, List.not_mem_nil, or_false]; omega)
        have hot := hfk.get hot (by simp only [List.mem_cons, List.not_mem_nil, or_false]; omega)
        have hra := hfk.get hra (by simp only [List.mem_cons, List.not_mem_nil, or_false]; omega)
        have hf_subject := hfk.get hf_subject (by decide)
        have hco := hfk.get hco (by decide)
        have hre := hfk.get hre (by decide)
        have hho := hfk.get hho (by decide)
        have hf_pieces := hfk.get hf_pieces (by decide)
        have hit_a := hfk.get hit_a (by decide)
        have pmkB_f_marks := pNmkB_f_marks
        have hfr := hfr.tr hfk (by decide)
        have hq20 := hfk.1
        have hf_spans := hNf_spans
        change ab_W _ _ _ G4 79 [some (vR w_), none, some (vR q), some (vz bf), some (vz ct_), some (vz tu), none] [vz 1] _
        refine zz_if_eq (tgt := 178) d_PW_split_79 (by decide) (by decide) (fun c22 => absurd c22 (by decide)) (fun c22 => ?_)
        have hs0_ := hq14 0 (by omega) (by omega)
        have hs1_ := hq14 1 (by omega) (by omega)
        have hq23 := stT_le ns212
        have hq24 := stC_le ns212
        refine ab_aload_n d_PW_split_82 rfl ?_
        refine ab_getf (fs := [vR f_ready, vR f_tape, vR f_reader, vR f_programs, vR f_subject, vR f_spans, vR f_threads, vR f_marks, vR f_oneMind, vR f_states, vR f_latest, vR f_matches, vR f_pieces, vR f_template, vR f_result, vR f_spare, vz cmp, vz ovs]) f_PW_42 d_PW_split_83 hw_.2.2 rfl ?_
        refine zz_iconst d_PW_split_86 ?_
        refine zz_iald d_PW_split_87 hf_spans (by omega) ?_
        refine ab_istore_n d_PW_split_88 (Nat.le_of_ble_eq_true rfl) (Nat.le_of_ble_eq_true rfl) rfl ?_
        change ab_W _ _ _ G4 89 [some (vR w_), none, some (vR q), some (vz (SP213 1)), some (vz ct_), some (vz tu), none] [] _
        refine zz_iinc d_PW_split_89 rfl (Nat.le_of_ble_eq_true rfl) (Nat.le_of_ble_eq_true rfl) rfl ?_
        change ab_W _ _ _ G4 92 [some (vR w_), none, some (vR q), some (vz (SP213 1)), some (vz (ct_ + 1)), some (vz tu), none] [] _
        refine ab_aload_n d_PW_split_92 rfl ?_
        refine ab_getf (fs := [vR f_ready, vR f_tape, vR f_reader, vR f_programs, vR f_subject, vR f_spans, vR f_threads, vR f_marks, vR f_oneMind, vR f_states, vR f_latest, vR f_matches, vR f_pieces, vR f_template, vR f_result, vR f_spare, vz cmp, vz ovs]) f_PW_42 d_PW_split_93 hw_.2.2 rfl ?_
        refine zz_iconst d_PW_split_96 ?_
        refine zz_iald d_PW_split_97 hf_spans (by omega) ?_
        refine ab_aload_n d_PW_split_98 rfl ?_
        refine ab_getf (fs := [vR f_ready, vR f_tape, vR f_reader, vR f_programs, vR f_subject, vR f_spans, vR f_threads, vR f_marks, vR f_oneMind, vR f_states, vR f_latest, vR f_matches, vR f_pieces, vR f_template, vR f_result, vR f_spare, vz cmp, vz ovs]) f_PW_42 d_PW_split_99 hw_.2.2 rfl ?_
        refine zz_iconst d_PW_split_102 ?_
        refine zz_iald d_PW_split_103 hf_spans (by omega) ?_
        refine zz_icmp_lt (tgt := 132) d_PW_split_104 (by decide) (by omega) (by omega) (fun c25 => ?_) (fun c25 => ?_)
        · refine zz_iconst d_PW_split_132 ?_
          refine ab_goto (tgt := 137) d_PW_split_133 (by decide) ?_
          refine ab_istore d_PW_split_137 (Nat.le_of_ble_eq_true rfl) (Nat.le_of_ble_eq_true rfl) rfl ?_
          change ab_W _ _ _ G4 139 [some (vR w_), none, some (vR q), some (vz (SP213 1)), some (vz (ct_ + 1)), some (vz tu), some (vz 1)] [] _
          refine ab_iload d_PW_split_139 rfl ?_
          refine zz_if_eq (tgt := 172) d_PW_split_141 (by decide) (by decide) (fun c26 => absurd c26 (by decide)) (fun c26 => ?_)
          refine ab_aload_n d_PW_split_144 rfl ?_
          refine ab_getf (fs := [vR f_ready, vR f_tape, vR f_reader, vR f_programs, vR f_subject, vR f_spans, vR f_threads, vR f_marks, vR f_oneMind, vR f_states, vR f_latest, vR f_matches, vR f_pieces, vR f_template, vR f_result, vR f_spare, vz cmp, vz ovs]) f_PW_79 d_PW_split_145 hw_.2.2 rfl ?_
          refine ab_aload_n d_PW_split_148 rfl ?_
          refine ab_getf (fs := [vR f_ready, vR f_tape, vR f_reader, vR f_programs, vR f_subject, vR f_spans, vR f_threads, vR f_marks, vR f_oneMind, vR f_states, vR f_latest, vR f_matches, vR f_pieces, vR f_template, vR f_result, vR f_spare, vz cmp, vz ovs]) f_PW_42 d_PW_split_149 hw_.2.2 rfl ?_
          refine zz_iconst d_PW_split_152 ?_
          refine zz_iald d_PW_split_153 hf_spans (by omega) ?_
          refine ab_callV (d' := d - 1) (as := [vz (SP213 0)]) (st := []) (r := _) (z_RW_add (o := o11) (r := f_pieces) (b := it_a) (lr := 73) (lb := 74) (n := mr_a) (lim := 4004) (sz := sz_a) (f := F_a) (x := (SP213 0)) hf_pieces hit_a (by omega) (by have h18 : ab_n0 = 18 := rfl; omega) (by omega) (by omega) (by omega)) (fun oc G2 h => by rcases h with ⟨h, _⟩ | ⟨_, _, _, _, h, _⟩ <;> exact ⟨_, h⟩) (by omega) m_RW_add ml_PW_197 im_RW_add se_RW_add c_RW hf_pieces.2.2 (Nat.le_of_ble_eq_true rfl) d_PW_split_154 rfl ?_
          intro v G27 hq
          rcases hq with ⟨hv, hGe, hq28⟩ | ⟨o29, b230, n231, f232, hv, hfk, hNf_pieces, hNb230, hq33, hq34, hq35, hq36, hq37, hq38⟩
          · cases hv
            rw [hGe]
            change ab_W _ _ _ G4 157 [some (vR w_), none, some (vR q), some (vz (SP213 1)), some (vz (ct_ + 1)), some (vz tu), some (vz 1)] [vz 0] _
            refine ab_pop d_PW_split_157 rfl ?_
            have hz40 : zT mr_a 4004 ≤ 12012 := zT_le (c := 4004) (by omega) rfl
            refine ab_aload_n d_PW_split_158 rfl ?_
            refine ab_getf (fs := [vR f_ready, vR f_tape, vR f_reader, vR f_programs, vR f_subject, vR f_spans, vR f_threads, vR f_marks, vR f_oneMind, vR f_states, vR f_latest, vR f_matches, vR f_pieces, vR f_template, vR f_result, vR f_spare, vz cmp, vz ovs]) f_PW_79 d_PW_split_159 hw_.2.2 rfl ?_
            refine ab_aload_n d_PW_split_162 rfl ?_
            refine ab_getf (fs := [vR f_ready, vR f_tape, vR f_reader, vR f_programs, vR f_subject, vR f_spans, vR f_threads, vR f_marks, vR f_oneMind, vR f_states, vR f_latest, vR f_matches, vR f_pieces, vR f_template, vR f_result, vR f_spare, vz cmp, vz ovs]) f_PW_42 d_PW_split_163 hw_.2.2 rfl ?_
            refine zz_iconst d_PW_split_166 ?_
            refine zz_iald d_PW_split_167 hf_spans (by omega) ?_
            refine ab_callV (d' := d - 1) (as := [vz (SP213 1)]) (st := []) (r := _) (z_RW_add (o := o11) (r := f_pieces) (b := it_a) (lr := 73) (lb := 74) (n := mr_a) (lim := 4004) (sz := sz_a) (f := F_a) (x := (SP213 1)) hf_pieces hit_a (by omega) (by have h18 : ab_n0 = 18 := rfl; omega) (by omega) (by omega) (by omega)) (fun oc G2 h => by rcases h with ⟨h, _⟩ | ⟨_, _, _, _, h, _⟩ <;> exact ⟨_, h⟩) (by omega) m_RW_add ml_PW_197 im_RW_add se_RW_add c_RW hf_pieces.2.2 (Nat.le_of_ble_eq_true rfl) d_PW_split_168 rfl ?_
            intro v G41 hq
            rcases hq with ⟨hv, hGe, hq42⟩ | ⟨o43, b244, n245, f246, hv, hfk, hNf_pieces, hNb244, hq47, hq48, hq49, hq50, hq51, hq52⟩
            · cases hv
              rw [hGe]
              change ab_W _ _ _ G4 171 [some (vR w_), none, some (vR q), some (vz (SP213 1)), some (vz (ct_ + 1)), some (vz tu), some (vz 1)] [vz 0] _
              refine ab_pop d_PW_split_171 rfl ?_
              refine zz_iinc d_PW_split_172 rfl (Nat.le_of_ble_eq_true rfl) (Nat.le_of_ble_eq_true rfl) rfl ?_
              change ab_W _ _ _ G4 175 [some (vR w_), none, some (vR q), some (vz (SP213 1)), some (vz (ct_ + 1)), some (vz (tu + 1)), some (vz 1)] [] _
              refine ab_goto (tgt := 62) d_PW_split_175 (by decide) ?_
              refine ab_less (L' := [some (vR w_), none, some (vR q), some (vz (SP213 1)), some (vz (ct_ + 1)), some (vz (tu + 1)), none]) (fun i v h => by rcases i with _ | _ | _ | _ | _ | _ | _ | i <;> first | exact h | (simp at h)) ?_
              exact ih (ns := ns212) (SP := SP213) (it_a := it_a) (sz_a := sz_a) (mr_a := mr_a) (F_a := F_a) (bf := (SP213 1)) (tu := (tu + 1)) (ct_ := (ct_ + 1)) hw_ hf_spans hq hki hne hot hra hf_subject hco hre hho hf_pieces hit_a pmkB_f_marks (by omega) hq14 (by omega) (by omega) (by omega) hfr (by omega) hk0
            · cases hv
              have hw_ := hfk.get hw_ (by decide)
              have hf_spans := hfk.get hf_spans (by decide)
              have hq := hfk.get hq (by simp only [List.mem_cons, List.not_mem_nil, or_false]; omega)
              have hki := hfk.get hki (by simp only [List.mem_cons, List.not_mem_nil, or_false]; omega)
              have hne := hfk.get hne (by simp only [List.mem_cons, List.not_mem_nil, or_false]; omega)
              have hot := hfk.get hot (by simp only [List.mem_cons, List.not_mem_nil, or_false]; omega)
              have hra := hfk.get hra (by simp only [List.mem_cons, List.not_mem_nil, or_false]; omega)
              have hf_subject := hfk.get hf_subject (by decide)
              have hco := hfk.get hco (by decide)
              have hre := hfk.get hre (by decide)
              have hho := hfk.get hho (by decide)
              have pmkB_f_marks := mkB.fr hfk pmkB_f_marks (by decide) (by decide) (by decide) (by decide)
              have hfr := hfr.tr hfk (by decide)
              have hq53 := hfk.1
              have hf_pieces := hNf_pieces
              have hb244 := hNb244
              change ab_W _ _ _ G41 171 [some (vR w_), none, some (vR q), some (vz (SP213 1)), some (vz (ct_ + 1)), some (vz tu), some (vz 1)] [vz 1] _
              exfalso; omega
          · cases hv
            have hw_ := hfk.get hw_ (by decide)
            have hf_spans := hfk.get hf_spans (by decide)
            have hq := hfk.get hq (by simp only [List.mem_cons, List.not_mem_nil, or_false]; omega)
            have hki := hfk.get hki (by simp only [List.mem_cons, List.not_mem_nil, or_false]; omega)
            have hne := hfk.get hne (by simp only [List.mem_cons, List.not_mem_nil, or_false]; omega)
            have hot := hfk.get hot (by simp only [List.mem_cons, List.not_mem_nil, or_false]; omega)
            have hra := hfk.get hra (by simp only [List.mem_cons, List.not_mem_nil, or_false]; omega)
            have hf_subject := hfk.get hf_subject (by decide)
            have hco := hfk.get hco (by decide)
            have hre := hfk.get hre (by decide)
            have hho := hfk.get hho (by decide)
            have pmkB_f_marks := mkB.fr hfk pmkB_f_marks (by decide) (by decide) (by decide) (by decide)
            have hfr := hfr.tr hfk (by decide)
            have hq39 := hfk.1
            have hf_pieces := hNf_pieces
            have hb230 := hNb230
            change ab_W _ _ _ G27 157 [some (vR w_), none, some (vR q), some (vz (SP213 1)), some (vz (ct_ + 1)), some (vz tu), some (vz 1)] [vz 1] _
            refine ab_pop d_PW_split_157 rfl ?_
            have hz54 : zT n231 4004 ≤ 12012 := zT_le (c := 4004) (by omega) rfl
            refine ab_aload_n d_PW_split_158 rfl ?_
            refine ab_getf (fs := [vR f_ready, vR f_tape, vR f_reader, vR f_programs, vR f_subject, vR f_spans, vR f_threads, vR f_marks, vR f_oneMind, vR f_states, vR f_latest, vR f_matches, vR f_pieces, vR f_template, vR f_result, vR f_spare, vz cmp, vz ovs]) f_PW_79 d_PW_split_159 hw_.2.2 rfl ?_
            refine ab_aload_n d_PW_split_162 rfl ?_
            refine ab_getf (fs := [vR f_ready, vR f_tape, vR f_reader, vR f_programs, vR f_subject, vR f_spans, vR f_threads, vR f_marks, vR f_oneMind, vR f_states, vR f_latest, vR f_matches, vR f_pieces, vR f_template, vR f_result, vR f_spare, vz cmp, vz ovs]) f_PW_42 d_PW_split_163 hw_.2.2 rfl ?_
            refine zz_iconst d_PW_split_166 ?_
            refine zz_iald d_PW_split_167 hf_spans (by omega) ?_
            refine ab_callV (d' := d - 1) (as := [vz (SP213 1)]) (st := []) (r := _) (z_RW_add (o := o29) (r := f_pieces) (b := b230) (lr := 73) (lb := 74) (n := n231) (lim := 4004) (sz := (sz_a + 1)) (f := f232) (x := (SP213 1)) hf_pieces hb230 (by omega) (by have h18 : ab_n0 = 18 := rfl; omega) (by omega) (by omega) (by omega)) (fun oc G2 h => by rcases h with ⟨h, _⟩ | ⟨_, _, _, _, h, _⟩ <;> exact ⟨_, h⟩) (by omega) m_RW_add ml_PW_197 im_RW_add se_RW_add c_RW hf_pieces.2.2 (Nat.le_of_ble_eq_true rfl) d_PW_split_168 rfl ?_
            intro v G55 hq
            rcases hq with ⟨hv, hGe, hq56⟩ | ⟨o57, b258, n259, f260, hv, hfk, hNf_pieces, hNb258, hq61, hq62, hq63, hq64, hq65, hq66⟩
            · cases hv
              rw [hGe]
              change ab_W _ _ _ G27 171 [some (vR w_), none, some (vR q), some (vz (SP213 1)), some (vz (ct_ + 1)), some (vz tu), some (vz 1)] [vz 0] _
              refine ab_pop d_PW_split_171 rfl ?_
              refine zz_iinc d_PW_split_172 rfl (Nat.le_of_ble_eq_true rfl) (Nat.le_of_ble_eq_true rfl) rfl ?_
              change ab_W _ _ _ G27 175 [some (vR w_), none, some (vR q), some (vz (SP213 1)), some (vz (ct_ + 1)), some (vz (tu + 1)), some (vz 1)] [] _
              refine ab_goto (tgt := 62) d_PW_split_175 (by decide) ?_
              refine ab_less (L' := [some (vR w_), none, some (vR q), some (vz (SP213 1)), some (vz (ct_ + 1)), some (vz (tu + 1)), none]) (fun i v h => by rcases i with _ | _ | _ | _ | _ | _ | _ | i <;> first | exact h | (simp at h)) ?_
              exact ih (ns := ns212) (SP := SP213) (it_a := b230) (sz_a := (sz_a + 1)) (mr_a := n231) (F_a := f232) (bf := (SP213 1)) (tu := (tu + 1)) (ct_ := (ct_ + 1)) hw_ hf_spans hq hki hne hot hra hf_subject hco hre hho hf_pieces hb230 pmkB_f_marks (by omega) hq14 (by omega) (by omega) (by omega) hfr (by omega) hk0
            · cases hv
              have hw_ := hfk.get hw_ (by decide)
              have hf_spans := hfk.get hf_spans (by decide)
              have hq := hfk.get hq (by simp only [List.mem_cons, List.not_mem_nil, or_false]; omega)
              have hki := hfk.get hki (by simp only [List.mem_cons, List.not_mem_nil, or_false]; omega)
              have hne := hfk.get hne (by simp only [List.mem_cons, List.not_mem_nil, or_false]; omega)
              have hot := hfk.get hot (by simp only [List.mem_cons, List.not_mem_nil, or_false]; omega)
              have hra := hfk.get hra (by simp only [List.mem_cons, List.not_mem_nil, or_false]; omega)
              have hf_subject := hfk.get hf_subject (by decide)
              have hco := hfk.get hco (by decide)
              have hre := hfk.get hre (by decide)
              have hho := hfk.get hho (by decide)
              have pmkB_f_marks := mkB.fr hfk pmkB_f_marks (by decide) (by decide) (by decide) (by decide)
              have hfr := hfr.tr hfk (by decide)
              have hq67 := hfk.1
              have hf_pieces := hNf_pieces
              have hb258 := hNb258
              change ab_W _ _ _ G55 171 [some (vR w_), none, some (vR q), some (vz (SP213 1)), some (vz (ct_ + 1)), some (vz tu), some (vz 1)] [vz 1] _
              refine ab_pop d_PW_split_171 rfl ?_
              refine zz_iinc d_PW_split_172 rfl (Nat.le_of_ble_eq_true rfl) (Nat.le_of_ble_eq_true rfl) rfl ?_
              change ab_W _ _ _ G55 175 [some (vR w_), none, some (vR q), some (vz (SP213 1)), some (vz (ct_ + 1)), some (vz (tu + 1)), some (vz 1)] [] _
              refine ab_goto (tgt := 62) d_PW_split_175 (by decide) ?_
              refine ab_less (L' := [some (vR w_), none, some (vR q), some (vz (SP213 1)), some (vz (ct_ + 1)), some (vz (tu + 1)), none]) (fun i v h => by rcases i with _ | _ | _ | _ | _ | _ | _ | i <;> first | exact h | (simp at h)) ?_
              exact ih (ns := ns212) (SP := SP213) (it_a := b258) (sz_a := ((sz_a + 1) + 1)) (mr_a := n259) (F_a := f260) (bf := (SP213 1)) (tu := (tu + 1)) (ct_ := (ct_ + 1)) hw_ hf_spans hq hki hne hot hra hf_subject hco hre hho hf_pieces hb258 pmkB_f_marks (by omega) hq14 (by omega) (by omega) (by omega) hfr (by omega) hk0
        · refine ab_aload_n d_PW_split_107 rfl ?_
          refine ab_getf (fs := [vR f_ready, vR f_tape, vR f_reader, vR f_programs, vR f_subject, vR f_spans, vR f_threads, vR f_marks, vR f_oneMind, vR f_states, vR f_latest, vR f_matches, vR f_pieces, vR f_template, vR f_result, vR f_spare, vz cmp, vz ovs]) f_PW_42 d_PW_split_108 hw_.2.2 rfl ?_
          refine zz_iconst d_PW_split_111 ?_
          refine zz_iald d_PW_split_112 hf_spans (by omega) ?_
          refine zz_if_le (tgt := 136) d_PW_split_113 (by decide) (by omega) (fun c68 => ?_) (fun c68 => ?_)
          · refine zz_iconst d_PW_split_136 ?_
            refine ab_istore d_PW_split_137 (Nat.le_of_ble_eq_true rfl) (Nat.le_of_ble_eq_true rfl) rfl ?_
            change ab_W _ _ _ G4 139 [some (vR w_), none, some (vR q), some (vz (SP213 1)), some (vz (ct_ + 1)), some (vz tu), some (vz 0)] [] _
            refine ab_iload d_PW_split_139 rfl ?_
            refine zz_if_eq (tgt := 172) d_PW_split_141 (by decide) (by decide) (fun c69 => ?_) (fun c69 => absurd c69 (by decide))
            refine zz_iinc d_PW_split_172 rfl (Nat.le_of_ble_eq_true rfl) (Nat.le_of_ble_eq_true rfl) rfl ?_
            change ab_W _ _ _ G4 175 [some (vR w_), none, some (vR q), some (vz (SP213 1)), some (vz (ct_ + 1)), some (vz (tu + 1)), some (vz 0)] [] _
            refine ab_goto (tgt := 62) d_PW_split_175 (by decide) ?_
            refine ab_less (L' := [some (vR w_), none, some (vR q), some (vz (SP213 1)), some (vz (ct_ + 1)), some (vz (tu + 1)), none]) (fun i v h => by rcases i with _ | _ | _ | _ | _ | _ | _ | i <;> first | exact h | (simp at h)) ?_
            exact ih (ns := ns212) (SP := SP213) (it_a := it_a) (sz_a := sz_a) (mr_a := mr_a) (F_a := F_a) (bf := (SP213 1)) (tu := (tu + 1)) (ct_ := (ct_ + 1)) hw_ hf_spans hq hki hne hot hra hf_subject hco hre hho hf_pieces hit_a pmkB_f_marks (by omega) hq14 (by omega) (by omega) (by omega) hfr (by omega) hk0
          · refine ab_aload_n d_PW_split_116 rfl ?_
            refine ab_getf (fs := [vR f_ready, vR f_tape, vR f_reader, vR f_programs, vR f_subject, vR f_spans, vR f_threads, vR f_marks, vR f_oneMind, vR f_states, vR f_latest, vR f_matches, vR f_pieces, vR f_template, vR f_result, vR f_spare, vz cmp, vz ovs]) f_PW_42 d_PW_split_117 hw_.2.2 rfl ?_
            refine zz_iconst d_PW_split_120 ?_
            refine zz_iald d_PW_split_121 hf_spans (by omega) ?_
            refine ab_aload_n d_PW_split_122 rfl ?_
            refine ab_getf (fs := [vR f_ready, vR f_tape, vR f_reader, vR f_programs, vR f_subject, vR f_spans, vR f_threads, vR f_marks, vR f_oneMind, vR f_states, vR f_latest, vR f_matches, vR f_pieces, vR f_template, vR f_result, vR f_spare, vz cmp, vz ovs]) f_PW_38 d_PW_split_123 hw_.2.2 rfl ?_
            refine ab_getf (fs := [vR by_, vR co, vR re, vR ho, vz n]) f_PW_164 d_PW_split_126 hf_subject.2.2 rfl ?_
            refine zz_icmp_ge (tgt := 136) d_PW_split_129 (by decide) (by omega) (by omega) (fun c70 => ?_) (fun c70 => ?_)
            · refine zz_iconst d_PW_split_136 ?_
              refine ab_istore d_PW_split_137 (Nat.le_of_ble_eq_true rfl) (Nat.le_of_ble_eq_true rfl) rfl ?_
              change ab_W _ _ _ G4 139 [some (vR w_), none, some (vR q), some (vz (SP213 1)), some (vz (ct_ + 1)), some (vz tu), some (vz 0)] [] _
              refine ab_iload d_PW_split_139 rfl ?_
              refine zz_if_eq (tgt := 172) d_PW_split_141 (by decide) (by decide) (fun c71 => ?_) (fun c71 => absurd c71 (by decide))
              refine zz_iinc d_PW_split_172 rfl (Nat.le_of_ble_eq_true rfl) (Nat.le_of_ble_eq_true rfl) rfl ?_
              change ab_W _ _ _ G4 175 [some (vR w_), none, some (vR q), some (vz (SP213 1)), some (vz (ct_ + 1)), some (vz (tu + 1)), some (vz 0)] [] _
              refine ab_goto (tgt := 62) d_PW_split_175 (by decide) ?_
              refine ab_less (L' := [some (vR w_), none, some (vR q), some (vz (SP213 1)), some (vz (ct_ + 1)), some (vz (tu + 1)), none]) (fun i v h => by rcases i with _ | _ | _ | _ | _ | _ | _ | i <;> first | exact h | (simp at h)) ?_
              exact ih (ns := ns212) (SP := SP213) (it_a := it_a) (sz_a := sz_a) (mr_a := mr_a) (F_a := F_a) (bf := (SP213 1)) (tu := (tu + 1)) (ct_ := (ct_ + 1)) hw_ hf_spans hq hki hne hot hra hf_subject hco hre hho hf_pieces hit_a pmkB_f_marks (by omega) hq14 (by omega) (by omega) (by omega) hfr (by omega) hk0
            · refine zz_iconst d_PW_split_132 ?_
              refine ab_goto (tgt := 137) d_PW_split_133 (by decide) ?_
              refine ab_istore d_PW_split_137 (Nat.le_of_ble_eq_true rfl) (Nat.le_of_ble_eq_true rfl) rfl ?_
              change ab_W _ _ _ G4 139 [some (vR w_), none, some (vR q), some (vz (SP213 1)), some (vz (ct_ + 1)), some (vz tu), some (vz 1)] [] _
              refine ab_iload d_PW_split_139 rfl ?_
              refine zz_if_eq (tgt := 172) d_PW_split_141 (by decide) (by decide) (fun c72 => absurd c72 (by decide)) (fun c72 => ?_)
              refine ab_aload_n d_PW_split_144 rfl ?_
              refine ab_getf (fs := [vR f_ready, vR f_tape, vR f_reader, vR f_programs, vR f_subject, vR f_spans, vR f_threads, vR f_marks, vR f_oneMind, vR f_states, vR f_latest, vR f_matches, vR f_pieces, vR f_template, vR f_result, vR f_spare, vz cmp, vz ovs]) f_PW_79 d_PW_split_145 hw_.2.2 rfl ?_
              refine ab_aload_n d_PW_split_148 rfl ?_
              refine ab_getf (fs := [vR f_ready, vR f_tape, vR f_reader, vR f_programs, vR f_subject, vR f_spans, vR f_threads, vR f_marks, vR f_oneMind, vR f_states, vR f_latest, vR f_matches, vR f_pieces, vR f_template, vR f_result, vR f_spare, vz cmp, vz ovs]) f_PW_42 d_PW_split_149 hw_.2.2 rfl ?_
              refine zz_iconst d_PW_split_152 ?_
              refine zz_iald d_PW_split_153 hf_spans (by omega) ?_
              refine ab_callV (d' := d - 1) (as := [vz (SP213 0)]) (st := []) (r := _) (z_RW_add (o := o11) (r := f_pieces) (b := it_a) (lr := 73) (lb := 74) (n := mr_a) (lim := 4004) (sz := sz_a) (f := F_a) (x := (SP213 0)) hf_pieces hit_a (by omega) (by have h18 : ab_n0 = 18 := rfl; omega) (by omega) (by omega) (by omega)) (fun oc G2 h => by rcases h with ⟨h, _⟩ | ⟨_, _, _, _, h, _⟩ <;> exact ⟨_, h⟩) (by omega) m_RW_add ml_PW_197 im_RW_add se_RW_add c_RW hf_pieces.2.2 (Nat.le_of_ble_eq_true rfl) d_PW_split_154 rfl ?_
              intro v G73 hq
              rcases hq with ⟨hv, hGe, hq74⟩ | ⟨o75, b276, n277, f278, hv, hfk, hNf_pieces, hNb276, hq79, hq80, hq81, hq82, hq83, hq84⟩
              · cases hv
                rw [hGe]
                change ab_W _ _ _ G4 157 [some (vR w_), none, some (vR q), some (vz (SP213 1)), some (vz (ct_ + 1)), some (vz tu), some (vz 1)] [vz 0] _
                refine ab_pop d_PW_split_157 rfl ?_
                have hz86 : zT mr_a 4004 ≤ 12012 := zT_le (c := 4004) (by omega) rfl
                refine ab_aload_n d_PW_split_158 rfl ?_
                refine ab_getf (fs := [vR f_ready, vR f_tape, vR f_reader, vR f_programs, vR f_subject, vR f_spans, vR f_threads, vR f_marks, vR f_oneMind, vR f_states, vR f_latest, vR f_matches, vR f_pieces, vR f_template, vR f_result, vR f_spare, vz cmp, vz ovs]) f_PW_79 d_PW_split_159 hw_.2.2 rfl ?_
                refine ab_aload_n d_PW_split_162 rfl ?_
                refine ab_getf (fs := [vR f_ready, vR f_tape, vR f_reader, vR f_programs, vR f_subject, vR f_spans, vR f_threads, vR f_marks, vR f_oneMind, vR f_states, vR f_latest, vR f_matches, vR f_pieces, vR f_template, vR f_result, vR f_spare, vz cmp, vz ovs]) f_PW_42 d_PW_split_163 hw_.2.2 rfl ?_
                refine zz_iconst d_PW_split_166 ?_
                refine zz_iald d_PW_split_167 hf_spans (by omega) ?_
                refine ab_callV (d' := d - 1) (as := [vz (SP213 1)]) (st := []) (r := _) (z_RW_add (o := o11) (r := f_pieces) (b := it_a) (lr := 73) (lb := 74) (n := mr_a) (lim := 4004) (sz := sz_a) (f := F_a) (x := (SP213 1)) hf_pieces hit_a (by omega) (by have h18 : ab_n0 = 18 := rfl; omega) (by omega) (by omega) (by omega)) (fun oc G2 h => by rcases h with ⟨h, _⟩ | ⟨_, _, _, _, h, _⟩ <;> exact ⟨_, h⟩) (by omega) m_RW_add ml_PW_197 im_RW_add se_RW_add c_RW hf_pieces.2.2 (Nat.le_of_ble_eq_true rfl) d_PW_split_168 rfl ?_
                intro v G87 hq
                rcases hq with ⟨hv, hGe, hq88⟩ | ⟨o89, b290, n291, f292, hv, hfk, hNf_pieces, hNb290, hq93, hq94, hq95, hq96, hq97, hq98⟩
                · cases hv
                  rw [hGe]
                  change ab_W _ _ _ G4 171 [some (vR w_), none, some (vR q), some (vz (SP213 1)), some (vz (ct_ + 1)), some (vz tu), some (vz 1)] [vz 0] _
                  refine ab_pop d_PW_split_171 rfl ?_
                  refine zz_iinc d_PW_split_172 rfl (Nat.le_of_ble_eq_true rfl) (Nat.le_of_ble_eq_true rfl) rfl ?_
                  change ab_W _ _ _ G4 175 [some (vR w_), none, some (vR q), some (vz (SP213 1)), some (vz (ct_ + 1)), some (vz (tu + 1)), some (vz 1)] [] _
                  refine ab_goto (tgt := 62) d_PW_split_175 (by decide) ?_
                  refine ab_less (L' := [some (vR w_), none, some (vR q), some (vz (SP213 1)), some (vz (ct_ + 1)), some (vz (tu + 1)), none]) (fun i v h => by rcases i with _ | _ | _ | _ | _ | _ | _ | i <;> first | exact h | (simp at h)) ?_
                  exact ih (ns := ns212) (SP := SP213) (it_a := it_a) (sz_a := sz_a) (mr_a := mr_a) (F_a := F_a) (bf := (SP213 1)) (tu := (tu + 1)) (ct_ := (ct_ + 1)) hw_ hf_spans hq hki hne hot hra hf_subject hco hre hho hf_pieces hit_a pmkB_f_marks (by omega) hq14 (by omega) (by omega) (by omega) hfr (by omega) hk0
                · cases hv
                  have hw_ := hfk.get hw_ (by decide)
                  have hf_spans := hfk.get hf_spans (by decide)
                  have hq := hfk.get hq (by simp only [List.mem_cons, List.not_mem_nil, or_false]; omega)
                  have hki := hfk.get hki (by simp only [List.mem_cons, List.not_mem_nil, or_false]; omega)
                  have hne := hfk.get hne (by simp only [List.mem_cons, List.not_mem_nil, or_false]; omega)
                  have hot := hfk.get hot (by simp only [List.mem_cons, List.not_mem_nil, or_false]; omega)
                  have hra := hfk.get hra (by simp only [List.mem_cons, List.not_mem_nil, or_false]; omega)
                  have hf_subject := hfk.get hf_subject (by decide)
                  have hco := hfk.get hco (by decide)
                  have hre := hfk.get hre (by decide)
                  have hho := hfk.get hho (by decide)
                  have pmkB_f_marks := mkB.fr hfk pmkB_f_marks (by decide) (by decide) (by decide) (by decide)
                  have hfr := hfr.tr hfk (by decide)
                  have hq99 := hfk.1
                  have hf_pieces := hNf_pieces
                  have hb290 := hNb290
                  change ab_W _ _ _ G87 171 [some (vR w_), none, some (vR q), some (vz (SP213 1)), some (vz (ct_ + 1)), some (vz tu), some (vz 1)] [vz 1] _
                  exfalso; omega
              · cases hv
                have hw_ := hfk.get hw_ (by decide)
                have hf_spans := hfk.get hf_spans (by decide)
                have hq := hfk.get hq (by simp only [List.mem_cons, List.not_mem_nil, or_false]; omega)
                have hki := hfk.get hki (by simp only [List.mem_cons, List.not_mem_nil, or_false]; omega)
                have hne := hfk.get hne (by simp only [List.mem_cons, List.not_mem_nil, or_false]; omega)
                have hot := hfk.get hot (by simp only [List.mem_cons, List.not_mem_nil, or_false]; omega)
                have hra := hfk.get hra (by simp only [List.mem_cons, List.not_mem_nil, or_false]; omega)
                have hf_subject := hfk.get hf_subject (by decide)
                have hco := hfk.get hco (by decide)
                have hre := hfk.get hre (by decide)
                have hho := hfk.get hho (by decide)
                have pmkB_f_marks := mkB.fr hfk pmkB_f_marks (by decide) (by decide) (by decide) (by decide)
                have hfr := hfr.tr hfk (by decide)
                have hq85 := hfk.1
                have hf_pieces := hNf_pieces
                have hb276 := hNb276
                change ab_W _ _ _ G73 157 [some (vR w_), none, some (vR q), some (vz (SP213 1)), some (vz (ct_ + 1)), some (vz tu), some (vz 1)] [vz 1] _
                refine ab_pop d_PW_split_157 rfl ?_
                have hz100 : zT n277 4004 ≤ 12012 := zT_le (c := 4004) (by omega) rfl
                refine ab_aload_n d_PW_split_158 rfl ?_
                refine ab_getf (fs := [vR f_ready, vR f_tape, vR f_reader, vR f_programs, vR f_subject, vR f_spans, vR f_threads, vR f_marks, vR f_oneMind, vR f_states, vR f_latest, vR f_matches, vR f_pieces, vR f_template, vR f_result, vR f_spare, vz cmp, vz ovs]) f_PW_79 d_PW_split_159 hw_.2.2 rfl ?_
                refine ab_aload_n d_PW_split_162 rfl ?_
                refine ab_getf (fs := [vR f_ready, vR f_tape, vR f_reader, vR f_programs, vR f_subject, vR f_spans, vR f_threads, vR f_marks, vR f_oneMind, vR f_states, vR f_latest, vR f_matches, vR f_pieces, vR f_template, vR f_result, vR f_spare, vz cmp, vz ovs]) f_PW_42 d_PW_split_163 hw_.2.2 rfl ?_
                refine zz_iconst d_PW_split_166 ?_
                refine zz_iald d_PW_split_167 hf_spans (by omega) ?_
                refine ab_callV (d' := d - 1) (as := [vz (SP213 1)]) (st := []) (r := _) (z_RW_add (o := o75) (r := f_pieces) (b := b276) (lr := 73) (lb := 74) (n := n277) (lim := 4004) (sz := (sz_a + 1)) (f := f278) (x := (SP213 1)) hf_pieces hb276 (by omega) (by have h18 : ab_n0 = 18 := rfl; omega) (by omega) (by omega) (by omega)) (fun oc G2 h => by rcases h with ⟨h, _⟩ | ⟨_, _, _, _, h, _⟩ <;> exact ⟨_, h⟩) (by omega) m_RW_add ml_PW_197 im_RW_add se_RW_add c_RW hf_pieces.2.2 (Nat.le_of_ble_eq_true rfl) d_PW_split_168 rfl ?_
                intro v G101 hq
                rcases hq with ⟨hv, hGe, hq102⟩ | ⟨o103, b2104, n2105, f2106, hv, hfk, hNf_pieces, hNb2104, hq107, hq108, hq109, hq110, hq111, hq112⟩
                · cases hv
                  rw [hGe]
                  change ab_W _ _ _ G73 171 [some (vR w_), none, some (vR q), some (vz (SP213 1)), some (vz (ct_ + 1)), some (vz tu), some (vz 1)] [vz 0] _
                  refine ab_pop d_PW_split_171 rfl ?_
                  refine zz_iinc d_PW_split_172 rfl (Nat.le_of_ble_eq_true rfl) (Nat.le_of_ble_eq_true rfl) rfl ?_
                  change ab_W _ _ _ G73 175 [some (vR w_), none, some (vR q), some (vz (SP213 1)), some (vz (ct_ + 1)), some (vz (tu + 1)), some (vz 1)] [] _
                  refine ab_goto (tgt := 62) d_PW_split_175 (by decide) ?_
                  refine ab_less (L' := [some (vR w_), none, some (vR q), some (vz (SP213 1)), some (vz (ct_ + 1)), some (vz (tu + 1)), none]) (fun i v h => by rcases i with _ | _ | _ | _ | _ | _ | _ | i <;> first | exact h | (simp at h)) ?_
                  exact ih (ns := ns212) (SP := SP213) (it_a := b276) (sz_a := (sz_a + 1)) (mr_a := n277) (F_a := f278) (bf := (SP213 1)) (tu := (tu + 1)) (ct_ := (ct_ + 1)) hw_ hf_spans hq hki hne hot hra hf_subject hco hre hho hf_pieces hb276 pmkB_f_marks (by omega) hq14 (by omega) (by omega) (by omega) hfr (by omega) hk0
                · cases hv
                  have hw_ := hfk.get hw_ (by decide)
                  have hf_spans := hfk.get hf_spans (by decide)
                  have hq := hfk.get hq (by simp only [List.mem_cons, List.not_mem_nil, or_false]; omega)
                  have hki := hfk.get hki (by simp only [List.mem_cons, List.not_mem_nil, or_false]; omega)
                  have hne := hfk.get hne (by simp only [List.mem_cons, List.not_mem_nil, or_false]; omega)
                  have hot := hfk.get hot (by simp only [List.mem_cons, List.not_mem_nil, or_false]; omega)
                  have hra := hfk.get hra (by simp only [List.mem_cons, List.not_mem_nil, or_false]; omega)
                  have hf_subject := hfk.get hf_subject (by decide)
                  have hco := hfk.get hco (by decide)
                  have hre := hfk.get hre (by decide)
                  have hho := hfk.get hho (by decide)
                  have pmkB_f_marks := mkB.fr hfk pmkB_f_marks (by decide) (by decide) (by decide) (by decide)
                  have hfr := hfr.tr hfk (by decide)
                  have hq113 := hfk.1
                  have hf_pieces := hNf_pieces
                  have hb2104 := hNb2104
                  change ab_W _ _ _ G101 171 [some (vR w_), none, some (vR q), some (vz (SP213 1)), some (vz (ct_ + 1)), some (vz tu), some (vz 1)] [vz 1] _
                  refine ab_pop d_PW_split_171 rfl ?_
                  refine zz_iinc d_PW_split_172 rfl (Nat.le_of_ble_eq_true rfl) (Nat.le_of_ble_eq_true rfl) rfl ?_
                  change ab_W _ _ _ G101 175 [some (vR w_), none, some (vR q), some (vz (SP213 1)), some (vz (ct_ + 1)), some (vz (tu + 1)), some (vz 1)] [] _
                  refine ab_goto (tgt := 62) d_PW_split_175 (by decide) ?_
                  refine ab_less (L' := [some (vR w_), none, some (vR q), some (vz (SP213 1)), some (vz (ct_ + 1)), some (vz (tu + 1)), none]) (fun i v h => by rcases i with _ | _ | _ | _ | _ | _ | _ | i <;> first | exact h | (simp at h)) ?_
                  exact ih (ns := ns212) (SP := SP213) (it_a := b2104) (sz_a := ((sz_a + 1) + 1)) (mr_a := n2105) (F_a := f2106) (bf := (SP213 1)) (tu := (tu + 1)) (ct_ := (ct_ + 1)) hw_ hf_spans hq hki hne hot hra hf_subject hco hre hho hf_pieces hb2104 pmkB_f_marks (by omega) hq14 (by omega) (by omega) (by omega) hfr (by omega) hk0
set_option maxRecDepth 100000 in
set_option maxHeartbeats 4000000 in
theorem z_PW_split {X : ab_X} {d : Nat} {o : Nat → Nat} {G : ab_G} {w_ : Nat} {f_ready : Nat} {f_tape : Nat} {f_reader : Nat} {f_programs : Nat} {f_subject : Nat} {f_spans : Nat} {f_threads : Nat} {f_marks : Nat} {f_oneMind : Nat} {f_states : Nat} {f_latest : Nat} {f_matches : Nat} {f_pieces : Nat} {f_template : Nat} {f_result : Nat} {f_spare : Nat} {cmp : Int} {ovs : Int} {PG : Nat → Option Nat} {NR : Nat → Nat} {cv : Int → Int} {on : Nat} {nm : Nat} {ns : Nat} {nt : Nat} {n : Int} {m : Nat} {SP : Int → Int} {it_a : Nat} {sz_a : Int} {mr_a : Nat} {F_a : Int → Int} {sl : Int} {k_ : Nat} (hw_ : cc o G w_ 18 (ab_ob 0 [vR f_ready, vR f_tape, vR f_reader, vR f_programs, vR f_subject, vR f_spans, vR f_threads, vR f_marks, vR f_oneMind, vR f_states, vR f_latest, vR f_matches, vR f_pieces, vR f_template, vR f_result, vR f_spare, vz cmp, vz ovs])) (hf_spans : cc o G f_spans 31 (za 20 SP)) (h17 : cc o G 17 17 (za 12 zFC)) (hf_programs : cc o G f_programs 81 (ab_rr 6 PG)) (hf_pieces : cc o G f_pieces 73 (ab_ob 7 [vz 4004, vR it_a, vz sz_a])) (hit_a : cc o G it_a 74 (za mr_a F_a)) (pthI_f_threads : thI o G f_threads) (pmkI_f_marks : mkI o G f_marks nm ns) (pomI_f_oneMind : omI o G f_oneMind on nt) (pstI_f_states : stI o G f_states cv cmp) (psuI_f_subject : suI o G f_subject n m) (ppgI_0 : pgI o G 0 PG NR cv cmp on) (n18 : ab_n0 = 18) (hkq : kq6 sl k_) (cr : -2147483648 ≤ sl ∧ sl ≤ 2147483647) (jsp : rgs SP 20 (-1) 2000) (crw_a : 0 ≤ sz_a ∧ sz_a ≤ ↑mr_a ∧ ↑mr_a ≤ (4004 : Int) ∧ 32 ≤ mr_a) (rc : 64 * G.length + 4600000 ≤ 64 * (ab_n0 + room_1.cells) + (64 * nm + 64 * stC ns + nt + onP on)) (rs : ab_slots G + 2360000 ≤ room_1.slots + (zT nm 52026 + stT ns + 2 * nt + onS on)) (hd : 16 ≤ d) : ab_F X d y_PW_split (.code y_PW_split b_PW_split 7 (some (.int))) [vR w_, vz sl] G (fun oc G2 => (∃ o2 : Nat → Nat, ∃ b : Nat, oc = .threw b ∧ fx o o2 [18, 31, 73, 74, 32, 33, 35, 36, 37, 38, 39, 40, 44, 45, 46, 47, 50, 51, 52, 53, 54, 55, 56, 57, 60, 61, 62, 63, 64, 65, 66, 67, 68] G G2 ∧ cc o2 G2 w_ 18 (ab_ob 0 [vR f_ready, vR f_tape, vR f_reader, vR f_programs, vR f_subject, vR f_spans, vR f_threads, vR f_marks, vR f_oneMind, vR f_states, vR f_latest, vR f_matches, vR f_pieces, vR f_template, vR f_result, vR f_spare, vz cmp, vz ovs]) ∧ cc o2 G2 f_spans 31 (za 20 SP) ∧ cc o2 G2 f_pieces 73 (ab_ob 7 [vz 4004, vR it_a, vz sz_a]) ∧ cc o2 G2 it_a 74 (za mr_a F_a) ∧ thI o2 G2 f_threads ∧ mkI o2 G2 f_marks nm ns ∧ omI o2 G2 f_oneMind on nt ∧ stI o2 G2 f_states cv cmp ∧ suI o2 G2 f_subject n m ∧ pgI o2 G2 0 PG NR cv cmp on ∧ (G2[b]? = some (.inr (13, []))) ∧ (G2.length = G.length + 1) ∧ (ab_slots G2 = ab_slots G + 6)) ∨ (∃ o2 : Nat → Nat, ∃ nm2 : Nat, ∃ ns2 : Nat, ∃ ov2 : Int, ∃ SP2 : Int → Int, ∃ r : Int, ∃ it2 : Nat, ∃ sz2 : Int, ∃ mr2 : Nat, ∃ F2 : Int → Int, oc = .returned (some (vz r)) ∧ fx o o2 [18, 31, 73, 74, 32, 33, 35, 36, 37, 38, 39, 40, 44, 45, 46, 47, 50, 51, 52, 53, 54, 55, 56, 57, 60, 61, 62, 63, 64, 65, 66, 67, 68] G G2 ∧ cc o2 G2 w_ 18 (ab_ob 0 [vR f_ready, vR f_tape, vR f_reader, vR f_programs, vR f_subject, vR f_spans, vR f_threads, vR f_marks, vR f_oneMind, vR f_states, vR f_latest, vR f_matches, vR f_pieces, vR f_template, vR f_result, vR f_spare, vz cmp, vz ov2]) ∧ cc o2 G2 f_spans 31 (za 20 SP2) ∧ cc o2 G2 f_pieces 73 (ab_ob 7 [vz 4004, vR it2, vz sz2]) ∧ cc o2 G2 it2 74 (za mr2 F2) ∧ thI o2 G2 f_threads ∧ mkI o2 G2 f_marks nm2 ns2 ∧ omI o2 G2 f_oneMind on nt ∧ stI o2 G2 f_states cv cmp ∧ suI o2 G2 f_subject n m ∧ pgI o2 G2 0 PG NR cv cmp on ∧ (rgs SP2 20 (-1) 2000) ∧ (0 ≤ sz2 ∧ sz2 ≤ ↑mr2 ∧ ↑mr2 ≤ (4004 : Int) ∧ 32 ≤ mr2) ∧ (64 * G2.length + (64 * nm + 64 * stC ns + nt + onP on + 64 * mr_a) ≤ 64 * G.length + (64 * nm2 + 64 * stC ns2 + nt + onP on + 64 * mr2)) ∧ (ab_slots G2 + (zT nm 52026 + stT ns + 2 * nt + onS on + zT mr_a 4004) ≤ ab_slots G + (zT nm2 52026 + stT ns2 + 2 * nt + onS on + zT mr2 4004)))) := by
  refine ab_F_of (by decide +kernel) (Nat.le_of_ble_eq_true rfl) ?_
  obtain ⟨Q, hQ⟩ : ∃ z : Outcome → ab_G → Prop, z = (fun oc G2 => (∃ o2 : Nat → Nat, ∃ b : Nat, oc = .threw b ∧ fx o o2 [18, 31, 73, 74, 32, 33, 35, 36, 37, 38, 39, 40, 44, 45, 46, 47, 50, 51, 52, 53, 54, 55, 56, 57, 60, 61, 62, 63, 64, 65, 66, 67, 68] G G2 ∧ cc o2 G2 w_ 18 (ab_ob 0 [vR f_ready, vR f_tape, vR f_reader, vR f_programs, vR f_subject, vR f_spans, vR f_threads, vR f_marks, vR f_oneMind, vR f_states, vR f_latest, vR f_matches, vR f_pieces, vR f_template, vR f_result, vR f_spare, vz cmp, vz ovs]) ∧ cc o2 G2 f_spans 31 (za 20 SP) ∧ cc o2 G2 f_pieces 73 (ab_ob 7 [vz 4004, vR it_a, vz sz_a]) ∧ cc o2 G2 it_a 74 (za mr_a F_a) ∧ thI o2 G2 f_threads ∧ mkI o2 G2 f_marks nm ns ∧ omI o2 G2 f_oneMind on nt ∧ stI o2 G2 f_states cv cmp ∧ suI o2 G2 f_subject n m ∧ pgI o2 G2 0 PG NR cv cmp on ∧ (G2[b]? = some (.inr (13, []))) ∧ (G2.length = G.length + 1) ∧ (ab_slots G2 = ab_slots G + 6)) ∨ (∃ o2 : Nat → Nat, ∃ nm2 : Nat, ∃ ns2 : Nat, ∃ ov2 : Int, ∃ SP2 : Int → Int, ∃ r : Int, ∃ it2 : Nat, ∃ sz2 : Int, ∃ mr2 : Nat, ∃ F2 : Int → Int, oc = .returned (some (vz r)) ∧ fx o o2 [18, 31, 73, 74, 32, 33, 35, 36, 37, 38, 39, 40, 44, 45, 46, 47, 50, 51, 52, 53, 54, 55, 56, 57, 60, 61, 62, 63, 64, 65, 66, 67, 68] G G2 ∧ cc o2 G2 w_ 18 (ab_ob 0 [vR f_ready, vR f_tape, vR f_reader, vR f_programs, vR f_subject, vR f_spans, vR f_threads, vR f_marks, vR f_oneMind, vR f_states, vR f_latest, vR f_matches, vR f_pieces, vR f_template, vR f_result, vR f_spare, vz cmp, vz ov2]) ∧ cc o2 G2 f_spans 31 (za 20 SP2) ∧ cc o2 G2 f_pieces 73 (ab_ob 7 [vz 4004, vR it2, vz sz2]) ∧ cc o2 G2 it2 74 (za mr2 F2) ∧ thI o2 G2 f_threads ∧ mkI o2 G2 f_marks nm2 ns2 ∧ omI o2 G2 f_oneMind on nt ∧ stI o2 G2 f_states cv cmp ∧ suI o2 G2 f_subject n m ∧ pgI o2 G2 0 PG NR cv cmp on ∧ (rgs SP2 20 (-1) 2000) ∧ (0 ≤ sz2 ∧ sz2 ≤ ↑mr2 ∧ ↑mr2 ≤ (4004 : Int) ∧ 32 ≤ mr2) ∧ (64 * G2.length + (64 * nm + 64 * stC ns + nt + onP on + 64 * mr_a) ≤ 64 * G.length + (64 * nm2 + 64 * stC ns2 + nt + onP on + 64 * mr2)) ∧ (ab_slots G2 + (zT nm 52026 + stT ns + 2 * nt + onS on + zT mr_a 4004) ≤ ab_slots G + (zT nm2 52026 + stT ns2 + 2 * nt + onS on + zT mr2 4004)))) := ⟨_, rfl⟩
  rw [← hQ]
  change ab_W X (ab_pl y_PW_split b_PW_split 7 (some (.int))) d G 0 [some (vR w_), some (vz sl), none, none, none, none, none] [] Q
  have hfr : fx o o [18, 31, 73, 74, 32, 33, 35, 36, 37, 38, 39, 40, 44, 45, 46, 47, 50, 51, 52, 53, 54, 55, 56, 57, 60, 61, 62, 63, 64, 65, 66, 67, 68] G G := fx.rf
  have hq1 := stT_le ns
  have hq2 := stC_le ns
  have hq3 := onP_le on
  have hq4 := onS_le on
  have hnt_ := pomI_f_oneMind.nt
  have hnm_ := pmkI_f_marks.b
  have hzt_ : zT nm 52026 ≤ 156078 := zT_le (c := 52026) (by omega) rfl
  refine ab_aload_n d_PW_split_0 rfl ?_
  refine ab_iload_n d_PW_split_1 rfl ?_
  refine ab_callV (d' := d - 1) (as := [vz sl]) (st := []) (r := _) (z_PW_programAt (o := o) (w_ := w_) (f_ready := f_ready) (f_tape := f_tape) (f_reader := f_reader) (f_programs := f_programs) (f_subject := f_subject) (f_spans := f_spans) (f_threads := f_threads) (f_marks := f_marks) (f_oneMind := f_oneMind) (f_states := f_states) (f_latest := f_latest) (f_matches := f_matches) (f_pieces := f_pieces) (f_template := f_template) (f_result := f_result) (f_spare := f_spare) (cmp := cmp) (ovs := ovs) (PG := PG) (k := sl) hw_ hf_programs (by omega)) (fun oc G2 h => by rcases h with ⟨h, _⟩ | ⟨_, h, _⟩ <;> exact ⟨_, h⟩) (by omega) m_PW_programAt ml_PW_148 im_PW_programAt se_PW_programAt c_PW hw_.2.2 (Nat.le_of_ble_eq_true rfl) d_PW_split_2 rfl ?_
  intro v G5 hq
  rcases hq with ⟨hv, hGe⟩ | ⟨b6, hv, hGe, hq7, hq8⟩
  · cases hv
    rw [hGe]
    change ab_W _ _ _ G 5 [some (vR w_), some (vz sl), none, none, none, none, none] [vN] _
    refine ab_astore_nN d_PW_split_5 (Nat.le_of_ble_eq_true rfl) (Nat.le_of_ble_eq_true rfl) rfl ?_
    change ab_W _ _ _ G 6 [some (vR w_), some (vz sl), some (vN), none, none, none, none] [] _
    refine ab_aload_nN d_PW_split_6 rfl ?_
    refine ab_ifnonnullN d_PW_split_7 ?_
    refine ab_throw (tx := "no pattern there") (by decide) (fun c h => h) cl_PW_109 inst_IA ini_IA tw_PW_113 d_PW_split_10 d_PW_split_13 d_PW_split_14 d_PW_split_16 d_PW_split_19 (by omega) (by omega) (by omega) ?_
    obtain ⟨G9, eG9⟩ : ∃ z : ab_G, z = G ++ [.inr (13, [])] := ⟨_, rfl⟩
    obtain ⟨o10, eo10⟩ : ∃ z : Nat → Nat, z = ol o G.length 99 := ⟨_, rfl⟩
    obtain ⟨a11, ea11⟩ : ∃ z : Nat, z = G.length := ⟨_, rfl⟩
    have hq12 := hit_a.n0 (by first | decide | omega)
    have ne_a11_w_ : nq a11 w_ := by have hlt := hw_.lt; unfold nq; omega
    have ne_a11_f_spans : nq a11 f_spans := by have hlt := hf_spans.lt; unfold nq; omega
    have ne_a11_17 : nq a11 17 := by have hlt := h17.lt; unfold nq; omega
    have ne_a11_f_programs : nq a11 f_programs := by have hlt := hf_programs.lt; unfold nq; omega
    have ne_a11_f_pieces : nq a11 f_pieces := by have hlt := hf_pieces.lt; unfold nq; omega
    have ne_a11_it_a : nq a11 it_a := by have hlt := hit_a.lt; unfold nq; omega
    have hw_ := hw_.akeep (k := 99) eG9
    rw [← eo10] at hw_
    have hf_spans := hf_spans.akeep (k := 99) eG9
    rw [← eo10] at hf_spans
    have h17 := h17.akeep (k := 99) eG9
    rw [← eo10] at h17
    have hf_programs := hf_programs.akeep (k := 99) eG9
    rw [← eo10] at hf_programs
    have hf_pieces := hf_pieces.akeep (k := 99) eG9
    rw [← eo10] at hf_pieces
    have hit_a := hit_a.akeep (k := 99) eG9
    rw [← eo10] at hit_a
    have hst := (fx.rf (o := o) (S := []) (G := G)).ap (k := 99) eG9
    rw [← eo10] at hst
    have pthI_f_threads := thI.fr hst pthI_f_threads (by decide) (by decide) (by decide) (by decide) (by decide) (by decide) (by decide) (by decide)
    have pmkI_f_marks := mkI.fr hst pmkI_f_marks (by decide) (by decide) (by decide) (by decide)
    have pomI_f_oneMind := omI.fr hst pomI_f_oneMind (by decide) (by decide) (by decide) (by decide) (by decide) (by decide) (by decide) (by decide)
    have pstI_f_states := stI.fr hst pstI_f_states (by decide) (by decide) (by decide) (by decide) (by decide) (by decide) (by decide) (by decide) (by decide)
    have psuI_f_subject := suI.fr hst psuI_f_subject (by decide) (by decide) (by decide) (by decide) (by decide)
    have ppgI_0 := pgI.fr hst ppgI_0  (by simp)
    have ha11 := cc.anew (o := o) 99 eG9 hq12
    rw [← eo10, ← ea11] at ha11
    have hfr := hfr.ap (k := 99) eG9
    rw [← eo10] at hfr
    have hq13 := z_alen eG9
    have hq14 : ab_slots G9 = ab_slots G + 6 := z_asl eG9 hq12
    rw [← ea11, ← eG9]
    rw [hQ]; exact (Or.inl ⟨_, _, rfl, hfr, hw_, hf_spans, hf_pieces, hit_a, pthI_f_threads, pmkI_f_marks, pomI_f_oneMind, pstI_f_states, psuI_f_subject, ppgI_0, (by exact ha11.2.2), (by omega), (by omega)⟩)
  · cases hv
    rw [hGe]
    change ab_W _ _ _ G 5 [some (vR w_), some (vz sl), none, none, none, none, none] [vR b6] _
    refine ab_astore_n d_PW_split_5 (Nat.le_of_ble_eq_true rfl) (Nat.le_of_ble_eq_true rfl) rfl ?_
    change ab_W _ _ _ G 6 [some (vR w_), some (vz sl), some (vR b6), none, none, none, none] [] _
    refine ab_aload_n d_PW_split_6 rfl ?_
    refine ab_ifnonnull (tgt := 20) d_PW_split_7 (by decide) ?_
    have hk_ := hkq.2 (by omega) (by omega)
    rw [← hk_] at hq7
    have hk6_ : k_ < 6 := by omega
    obtain ⟨⟨mi_, ppgB_b6⟩, ppgX_0⟩ := ppgI_0.opn hk6_ hq7
    obtain ⟨ki_g, ne_g, ot_g, cnt_g, fi_g, la_g, ra_g, ru_g, gr_g, wi_g, sz_g, fl_g, ve_g, na_g, nl_g, K_g, N_g, O_g, RR_g, NA_g, NL_g, hb6, hki_g, hne_g, hot_g, hra_g, hna_g, hnl_g, cq_g, hpu_g, hp_g, hr_g, hch_g, cru_g, ck9_g, cfi_g, cgr_g, cfl_g, hpo_g, hmi_g, hvc_g, cve_g, jnl_g⟩ := ppgB_b6
    obtain ⟨by_, co, re, ho, f, C, Rs, H, mc, hf_subject, hby_, hco, hre, hho, csu, hsu⟩ := psuI_f_subject
    refine ab_aload_n d_PW_split_20 rfl ?_
    refine ab_getf (fs := [vR f_ready, vR f_tape, vR f_reader, vR f_programs, vR f_subject, vR f_spans, vR f_threads, vR f_marks, vR f_oneMind, vR f_states, vR f_latest, vR f_matches, vR f_pieces, vR f_template, vR f_result, vR f_spare, vz cmp, vz ovs]) f_PW_79 d_PW_split_21 hw_.2.2 rfl ?_
    refine ab_callV (d' := d - 1) (as := []) (st := []) (r := _) (z_RW_clear (o := o) (r := f_pieces) (b := it_a) (lr := 73) (lim := 4004) (sz := sz_a) hf_pieces (by have h18 : ab_n0 = 18 := rfl; omega)) (fun oc G2 h => by rcases h with ⟨h, _⟩ <;> exact ⟨_, h⟩) (by omega) m_RW_clear ml_PW_120 im_RW_clear se_RW_clear c_RW hf_pieces.2.2 (Nat.le_of_ble_eq_true rfl) d_PW_split_24 rfl ?_
    intro v G15 hq
    rcases hq with ⟨hv, hfk, hlk, hsk, hNf_pieces⟩
    cases hv
    have hw_ := hfk.get hw_ (by decide)
    have hf_spans := hfk.get hf_spans (by decide)
    have h17 := hfk.get h17 (by decide)
    have hf_programs := hfk.get hf_programs (by decide)
    have hit_a := hfk.get hit_a (by decide)
    have hb6 := hfk.get hb6 (by simp only [List.mem_cons, List.not_mem_nil, or_false]; omega)
    have hki_g := hfk.get hki_g (by simp only [List.mem_cons, List.not_mem_nil, or_false]; omega)
    have hne_g := hfk.get hne_g (by simp only [List.mem_cons, List.not_mem_nil, or_false]; omega)
    have hot_g := hfk.get hot_g (by simp only [List.mem_cons, List.not_mem_nil, or_false]; omega)
    have hra_g := hfk.get hra_g (by simp only [List.mem_cons, List.not_mem_nil, or_false]; omega)
    have hna_g := hfk.get hna_g (by simp only [List.mem_cons, List.not_mem_nil, or_false]; omega)
    have hnl_g := hfk.get hnl_g (by simp only [List.mem_cons, List.not_mem_nil, or_false]; omega)
    have hf_subject := hfk.get hf_subject (by decide)
    have hby_ := hfk.get hby_ (by decide)
    have hco := hfk.get hco (by decide)
    have hre := hfk.get hre (by decide)
    have hho := hfk.get hho (by decide)
    have pthI_f_threads := thI.fr hfk pthI_f_threads (by decide) (by decide) (by decide) (by decide) (by decide) (by decide) (by decide) (by decide)
    have pmkI_f_marks := mkI.fr hfk pmkI_f_marks (by decide) (by decide) (by decide) (by decide)
    have pomI_f_oneMind := omI.fr hfk pomI_f_oneMind (by decide) (by decide) (by decide) (by decide) (by decide) (by decide) (by decide) (by decide)
    have pstI_f_states := stI.fr hfk pstI_f_states (by decide) (by decide) (by decide) (by decide) (by decide) (by decide) (by decide) (by decide) (by decide)
    have ppgX_0 := pgX.fr hfk ppgX_0 (fun xx hx => Or.inl ((show ∀ y ∈ ([73] : List Nat), y < 100 by decide) xx hx))
    have hfr := hfr.tr hfk (by decide)
    have hq16 := hlk
    have hq17 := hsk
    have hf_pieces := hNf_pieces
    change ab_W _ _ _ G15 27 [some (vR w_), some (vz sl), some (vR b6), none, none, none, none] [] _
    refine ab_aload_n d_PW_split_27 rfl ?_
    refine ab_getf (fs := [vR f_ready, vR f_tape, vR f_reader, vR f_programs, vR f_subject, vR f_spans, vR f_threads, vR f_marks, vR f_oneMind, vR f_states, vR f_latest, vR f_matches, vR f_pieces, vR f_template, vR f_result, vR f_spare, vz cmp, vz ovs]) f_PW_79 d_PW_split_28 hw_.2.2 rfl ?_
    refine zz_iconst d_PW_split_31 ?_
    refine ab_callV (d' := d - 1) (as := [vz 0]) (st := []) (r := _) (z_RW_add (o := o) (r := f_pieces) (b := it_a) (lr := 73) (lb := 74) (n := mr_a) (lim := 4004) (sz := 0) (f := F_a) (x := 0) hf_pieces hit_a (by omega) (by have h18 : ab_n0 = 18 := rfl; omega) (by omega) (by omega) (by omega)) (fun oc G2 h => by rcases h with ⟨h, _⟩ | ⟨_, _, _, _, h, _⟩ <;> exact ⟨_, h⟩) (by omega) m_RW_add ml_PW_197 im_RW_add se_RW_add c_RW hf_pieces.2.2 (Nat.le_of_ble_eq_true rfl) d_PW_split_32 rfl ?_
    intro v G18 hq
    rcases hq with ⟨hv, hGe, hq19⟩ | ⟨o20, b221, n222, f223, hv, hfk, hNf_pieces, hNb221, hq24, hq25, hq26, hq27, hq28, hq29⟩
    · cases hv
      rw [hGe]
      change ab_W _ _ _ G15 35 [some (vR w_), some (vz sl), some (vR b6), none, none, none, none] [vz 0] _
      exfalso; omega
    · cases hv
      have hw_ := hfk.get hw_ (by decide)
      have hf_spans := hfk.get hf_spans (by decide)
      have h17 := hfk.get h17 (by decide)
      have hf_programs := hfk.get hf_programs (by decide)
      have hb6 := hfk.get hb6 (by simp only [List.mem_cons, List.not_mem_nil, or_false]; omega)
      have hki_g := hfk.get hki_g (by simp only [List.mem_cons, List.not_mem_nil, or_false]; omega)
      have hne_g := hfk.get hne_g (by simp only [List.mem_cons, List.not_mem_nil, or_false]; omega)
      have hot_g := hfk.get hot_g (by simp only [List.mem_cons, List.not_mem_nil, or_false]; omega)
      have hra_g := hfk.get hra_g (by simp only [List.mem_cons, List.not_mem_nil, or_false]; omega)
      have hna_g := hfk.get hna_g (by simp only [List.mem_cons, List.not_mem_nil, or_false]; omega)
      have hnl_g := hfk.get hnl_g (by simp only [List.mem_cons, List.not_mem_nil, or_false]; omega)
      have hf_subject := hfk.get hf_subject (by decide)
      have hby_ := hfk.get hby_ (by decide)
      have hco := hfk.get hco (by decide)
      have hre := hfk.get hre (by decide)
      have hho := hfk.get hho (by decide)
      have pthI_f_threads := thI.fr hfk pthI_f_threads (by decide) (by decide) (by decide) (by decide) (by decide) (by decide) (by decide) (by decide)
      have pmkI_f_marks := mkI.fr hfk pmkI_f_marks (by decide) (by decide) (by decide) (by decide)
      have pomI_f_oneMind := omI.fr hfk pomI_f_oneMind (by decide) (by decide) (by decide) (by decide) (by decide) (by decide) (by decide) (by decide)
      have pstI_f_states := stI.fr hfk pstI_f_states (by decide) (by decide) (by decide) (by decide) (by decide) (by decide) (by decide) (by decide) (by decide)
      have ppgX_0 := pgX.fr hfk ppgX_0 (fun xx hx => Or.inl ((show ∀ y ∈ ([73, 74] : List Nat), y < 100 by decide) xx hx))
      have hfr := hfr.tr hfk (by decide)
      have hq30 := hfk.1
      have hf_pieces := hNf_pieces
      have hb221 := hNb221
      change ab_W _ _ _ G18 35 [some (vR w_), some (vz sl), some (vR b6), none, none, none, none] [vz 1] _
      refine ab_pop d_PW_split_35 rfl ?_
      have hz31 : zT n222 4004 ≤ 12012 := zT_le (c := 4004) (by omega) rfl
      refine zz_iconst d_PW_split_36 ?_
      refine ab_istore_n d_PW_split_37 (Nat.le_of_ble_eq_true rfl) (Nat.le_of_ble_eq_true rfl) rfl ?_
      change ab_W _ _ _ G18 38 [some (vR w_), some (vz sl), some (vR b6), some (vz (-1)), none, none, none] [] _
      refine zz_iconst d_PW_split_38 ?_
      refine ab_istore d_PW_split_39 (Nat.le_of_ble_eq_true rfl) (Nat.le_of_ble_eq_true rfl) rfl ?_
      change ab_W _ _ _ G18 41 [some (vR w_), some (vz sl), some (vR b6), some (vz (-1)), some (vz 0), none, none] [] _
      refine ab_aload_n d_PW_split_41 rfl ?_
      refine ab_getf (fs := [vR f_ready, vR f_tape, vR f_reader, vR f_programs, vR f_subject, vR f_spans, vR f_threads, vR f_marks, vR f_oneMind, vR f_states, vR f_latest, vR f_matches, vR f_pieces, vR f_template, vR f_result, vR f_spare, vz cmp, vz ovs]) f_PW_55 d_PW_split_42 hw_.2.2 rfl ?_
      refine ab_aload_n d_PW_split_45 rfl ?_
      refine ab_aload_n d_PW_split_46 rfl ?_
      refine ab_getf (fs := [vR f_ready, vR f_tape, vR f_reader, vR f_programs, vR f_subject, vR f_spans, vR f_threads, vR f_marks, vR f_oneMind, vR f_states, vR f_latest, vR f_matches, vR f_pieces, vR f_template, vR f_result, vR f_spare, vz cmp, vz ovs]) f_PW_38 d_PW_split_47 hw_.2.2 rfl ?_
      refine zz_iconst d_PW_split_50 ?_
      refine zz_iconst d_PW_split_51 ?_
      refine ab_aload_n d_PW_split_52 rfl ?_
      refine ab_getf (fs := [vR f_ready, vR f_tape, vR f_reader, vR f_programs, vR f_subject, vR f_spans, vR f_threads, vR f_marks, vR f_oneMind, vR f_states, vR f_latest, vR f_matches, vR f_pieces, vR f_template, vR f_result, vR f_spare, vz cmp, vz ovs]) f_PW_42 d_PW_split_53 hw_.2.2 rfl ?_
      obtain ⟨wk_k, mk_k, stk_k, w_k, df_k, dp_k, fo_k, fy_k, hw_k, stp_k, WK_k, M_k, SK_k, sp0_k, q0_k, s0_k, hf_marks, hwk_k, hmk_k, hstk_k, cn_k, hst_k, cfo_k⟩ := pmkI_f_marks
      refine ab_callV (d' := d - 1) (as := [vR b6, vR f_subject, vz 0, vz 0, vR f_spans]) (st := []) (r := _) (z_MK_begin (o := o20) (q := b6) (lq := (100 + 10 * k_)) (ki := ki_g) (ne := ne_g) (ot := ot_g) (cnt := cnt_g) (fi := fi_g) (la := la_g) (ra := ra_g) (ru := ru_g) (gr := gr_g) (wi := wi_g) (sz := sz_g) (fl := fl_g) (ve := ve_g) (mi := mi_) (na := na_g) (nl := nl_g) (s := f_subject) (by_ := by_) (co := co) (re := re) (ho := ho) (n := n) (a := f_marks) (sp := f_spans) (wk := wk_k) (mk := mk_k) (stk := stk_k) (dp := dp_k) (fo := fo_k) (hw := 0) (stp := stp_k) (M := M_k) (nm := nm) (q0 := q0_k) (s0 := s0_k) (sp0 := sp0_k) (from_ := 0) (hw0 := hw_k) (fy0 := fy_k) (w0 := w_k) (df0 := df_k) hf_marks hmk_k hb6 hf_subject (by omega) (by omega) (by omega) (by omega) (by omega) (by omega) (by omega)) (fun oc G2 h => by rcases h with ⟨_, _, _, _, _, _, h, _⟩ <;> exact ⟨_, h⟩) (by omega) m_MK_begin ml_PW_189 im_MK_begin se_MK_begin c_MK hf_marks.2.2 (Nat.le_of_ble_eq_true rfl) d_PW_split_56 rfl ?_
      intro v G32 hq
      rcases hq with ⟨o33, w234, fy235, mk236, nm237, M238, hv, hfk, hNf_marks, hNmk236, hq39, hq40, hq41, hq42, hq43, hq44, hq45⟩
      cases hv
      have hw_ := hfk.get hw_ (by decide)
      have hf_spans := hfk.get hf_spans (by decide)
      have h17 := hfk.get h17 (by decide)
      have hf_programs := hfk.get hf_programs (by decide)
      have hf_pieces := hfk.get hf_pieces (by decide)
      have hb6 := hfk.get hb6 (by simp only [List.mem_cons, List.not_mem_nil, or_false]; omega)
      have hki_g := hfk.get hki_g (by simp only [List.mem_cons, List.not_mem_nil, or_false]; omega)
      have hne_g := hfk.get hne_g (by simp only [List.mem_cons, List.not_mem_nil, or_false]; omega)
      have hot_g := hfk.get hot_g (by simp only [List.mem_cons, List.not_mem_nil, or_false]; omega)
      have hra_g := hfk.get hra_g (by simp only [List.mem_cons, List.not_mem_nil, or_false]; omega)
      have hna_g := hfk.get hna_g (by simp only [List.mem_cons, List.not_mem_nil, or_false]; omega)
      have hnl_g := hfk.get hnl_g (by simp only [List.mem_cons, List.not_mem_nil, or_false]; omega)
      have hf_subject := hfk.get hf_subject (by decide)
      have hby_ := hfk.get hby_ (by decide)
      have hco := hfk.get hco (by decide)
      have hre := hfk.get hre (by decide)
      have hho := hfk.get hho (by decide)
      have hb221 := hfk.get hb221 (by decide)
      have hwk_k := hfk.get hwk_k (by decide)
      have hstk_k := hfk.get hstk_k (by decide)
      have pthI_f_threads := thI.fr hfk pthI_f_threads (by decide) (by decide) (by decide) (by decide) (by decide) (by decide) (by decide) (by decide)
      have pomI_f_oneMind := omI.fr hfk pomI_f_oneMind (by decide) (by decide) (by decide) (by decide) (by decide) (by decide) (by decide) (by decide)
      have pstI_f_states := stI.fr hfk pstI_f_states (by decide) (by decide) (by decide) (by decide) (by decide) (by decide) (by decide) (by decide) (by decide)
      have ppgX_0 := pgX.fr hfk ppgX_0 (fun xx hx => Or.inl ((show ∀ y ∈ ([44, 46] : List Nat), y < 100 by decide) xx hx))
      have hfr := hfr.tr hfk (by decide)
      have hq46 := hfk.1
      have hf_marks := hNf_marks
      have hmk236 := hNmk236
      change ab_W _ _ _ G32 59 [some (vR w_), some (vz sl), some (vR b6), some (vz (-1)), some (vz 0), none, none] [] _
      have pmkB_f_marks : mkB o33 G32 f_marks b6 f_subject f_spans nm237 ns cnt_g n := ⟨wk_k, mk236, stk_k, w234, 0, dp_k, fo_k, fy235, 0, stp_k, WK_k, M238, SK_k, hf_marks, hwk_k, hmk236, hstk_k, (by omega), hst_k, (by omega), (by omega), (by omega), (by omega)⟩
      have hzt2_ : zT nm237 52026 ≤ 156078 := zT_le (c := 52026) (by omega) rfl
      refine zz_iconst d_PW_split_59 ?_
      refine ab_istore d_PW_split_60 (Nat.le_of_ble_eq_true rfl) (Nat.le_of_ble_eq_true rfl) rfl ?_
      change ab_W _ _ _ G32 62 [some (vR w_), some (vz sl), some (vR b6), some (vz (-1)), some (vz 0), some (vz 0), none] [] _
      refine ab_less (L' := [some (vR w_), none, some (vR b6), some (vz (-1)), some (vz 0), some (vz 0), none]) (fun i v h => by rcases i with _ | _ | _ | _ | _ | _ | _ | i <;> first | exact h | (simp at h)) ?_
      refine y_PW_split_62 (w_ := w_) (f_ready := f_ready) (f_tape := f_tape) (f_reader := f_reader) (f_programs := f_programs) (f_subject := f_subject) (f_spans := f_spans) (f_threads := f_threads) (f_marks := f_marks) (f_oneMind := f_oneMind) (f_states := f_states) (f_latest := f_latest) (f_matches := f_matches) (f_pieces := f_pieces) (f_template := f_template) (f_result := f_result) (f_spare := f_spare) (cmp := cmp) (ovs := ovs) (q := b6) (lq := (100 + 10 * k_)) (ki := ki_g) (ne := ne_g) (ot := ot_g) (cnt := cnt_g) (fi := fi_g) (la := la_g) (ra := ra_g) (ru := ru_g) (gr := gr_g) (wi := wi_g) (sz := sz_g) (fl := fl_g) (ve := ve_g) (mi := mi_) (K := K_g) (N := N_g) (O := O_g) (RR := RR_g) (nr := (NR k_)) (na := na_g) (nl := nl_g) (nm := nm237) (n := n) (by_ := by_) (co := co) (re := re) (ho := ho) (C := C) (Rs := Rs) (H := H) (mc := mc) (ns0 := ns) (mr0 := n222) (G0 := G32) (ns := ns) (SP := SP) (it_a := b221) (sz_a := (0 + 1)) (mr_a := n222) (F_a := f223) (bf := (-1)) (tu := 0) (ct_ := 0) (by omega) (by omega) hp_g hr_g (by omega) (by omega) (by omega) hsu (by omega) (by omega) (by omega) (Int.toNat (n + 1 - 0) + 1) hw_ hf_spans hb6 hki_g hne_g hot_g hra_g hf_subject hco hre hho hf_pieces hb221 pmkB_f_marks (by omega) jsp (by omega) (by omega) (by omega) fx.rf (by omega) (fun G47 o48 ns249 SP250 ct251 it252 sz253 mr254 F255 hNf_spans hNf_pieces hNit252 pNmkB_f_marks hq56 hq57 hq58 hq59 hq60 hfk => ?_)
      · have hw_ := hfk.get hw_ (by decide)
        have h17 := hfk.get h17 (by decide)
        have hf_programs := hfk.get hf_programs (by decide)
        have hb6 := hfk.get hb6 (by simp only [List.mem_cons, List.not_mem_nil, or_false]; omega)
        have hki_g := hfk.get hki_g (by simp only [List.mem_cons, List.not_mem_nil, or_false]; omega)
        have hne_g := hfk.get hne_g (by simp only [List.mem_cons, List.not_mem_nil, or_false]; omega)
        have hot_g := hfk.get hot_g (by simp only [List.mem_cons, List.not_mem_nil, or_false]; omega)
        have hra_g := hfk.get hra_g (by simp only [List.mem_cons, List.not_mem_nil, or_false]; omega)
        have hna_g := hfk.get hna_g (by simp only [List.mem_cons, List.not_mem_nil, or_false]; omega)
        have hnl_g := hfk.get hnl_g (by simp only [List.mem_cons, List.not_mem_nil, or_false]; omega)
        have hf_subject := hfk.get hf_subject (by decide)
        have hby_ := hfk.get hby_ (by decide)
        have hco := hfk.get hco (by decide)
        have hre := hfk.get hre (by decide)
        have hho := hfk.get hho (by decide)
        have pthI_f_threads := thI.fr hfk pthI_f_threads (by decide) (by decide) (by decide) (by decide) (by decide) (by decide) (by decide) (by decide)
        have pomI_f_oneMind := omI.fr hfk pomI_f_oneMind (by decide) (by decide) (by decide) (by decide) (by decide) (by decide) (by decide) (by decide)
        have pstI_f_states := stI.fr hfk pstI_f_states (by decide) (by decide) (by decide) (by decide) (by decide) (by decide) (by decide) (by decide) (by decide)
        have ppgX_0 := pgX.fr hfk ppgX_0 (fun xx hx => Or.inl ((show ∀ y ∈ ([31, 44, 45, 46, 47, 73, 74] : List Nat), y < 100 by decide) xx hx))
        have hfr := hfr.tr hfk (by decide)
        have hq61 := hfk.1
        have hf_spans := hNf_spans
        have hf_pieces := hNf_pieces
        have hit252 := hNit252
        have pmkB_f_marks := pNmkB_f_marks
        change ab_W _ _ _ G47 178 [some (vR w_), none, some (vR b6), none, some (vz ct251), none, none] [] _
        obtain ⟨wk_e, mk_e, stk_e, w_e, df_e, dp_e, fo_e, fy_e, hw_e, stp_e, WK_e, M_e, SK_e, hf_marks, hwk_e, hmk_e, hstk_e, cn_e, hst_e, cf_e, cw_e, cm_e, cd_e⟩ := pmkB_f_marks
        have pmkI_f_marks : mkI o48 G47 f_marks nm237 ns249 := ⟨wk_e, mk_e, stk_e, w_e, df_e, dp_e, fo_e, fy_e, hw_e, stp_e, WK_e, M_e, SK_e, vR f_spans, vR b6, vR f_subject, hf_marks, hwk_e, hmk_e, hstk_e, (by omega), hst_e, (by omega)⟩
        have hq62 := stT_le ns249
        have hq63 := stC_le ns249
        have hq64 := onP_le on
        have hq65 := onS_le on
        have hz66 : zT mr254 4004 ≤ 12012 := zT_le (c := 4004) (by omega) rfl
        refine ab_aload_n d_PW_split_178 rfl ?_
        refine ab_getf (fs := [vR f_ready, vR f_tape, vR f_reader, vR f_programs, vR f_subject, vR f_spans, vR f_threads, vR f_marks, vR f_oneMind, vR f_states, vR f_latest, vR f_matches, vR f_pieces, vR f_template, vR f_result, vR f_spare, vz cmp, vz ovs]) f_PW_79 d_PW_split_179 hw_.2.2 rfl ?_
        refine ab_aload_n d_PW_split_182 rfl ?_
        refine ab_getf (fs := [vR f_ready, vR f_tape, vR f_reader, vR f_programs, vR f_subject, vR f_spans, vR f_threads, vR f_marks, vR f_oneMind, vR f_states, vR f_latest, vR f_matches, vR f_pieces, vR f_template, vR f_result, vR f_spare, vz cmp, vz ovs]) f_PW_38 d_PW_split_183 hw_.2.2 rfl ?_
        refine ab_getf (fs := [vR by_, vR co, vR re, vR ho, vz n]) f_PW_164 d_PW_split_186 hf_subject.2.2 rfl ?_
        refine ab_callV (d' := d - 1) (as := [vz n]) (st := []) (r := _) (z_RW_add (o := o48) (r := f_pieces) (b := it252) (lr := 73) (lb := 74) (n := mr254) (lim := 4004) (sz := sz253) (f := F255) (x := n) hf_pieces hit252 (by omega) (by have h18 : ab_n0 = 18 := rfl; omega) (by omega) (by omega) (by omega)) (fun oc G2 h => by rcases h with ⟨h, _⟩ | ⟨_, _, _, _, h, _⟩ <;> exact ⟨_, h⟩) (by omega) m_RW_add ml_PW_197 im_RW_add se_RW_add c_RW hf_pieces.2.2 (Nat.le_of_ble_eq_true rfl) d_PW_split_189 rfl ?_
        intro v G67 hq
        rcases hq with ⟨hv, hGe, hq68⟩ | ⟨o69, b270, n271, f272, hv, hfk, hNf_pieces, hNb270, hq73, hq74, hq75, hq76, hq77, hq78⟩
        · cases hv
          rw [hGe]
          change ab_W _ _ _ G47 192 [some (vR w_), none, some (vR b6), none, some (vz ct251), none, none] [vz 0] _
          refine ab_pop d_PW_split_192 rfl ?_
          refine ab_aload_n d_PW_split_193 rfl ?_
          refine ab_aload_n d_PW_split_194 rfl ?_
          refine ab_getf (fs := [vR ki_g, vR ne_g, vR ot_g, vz cnt_g, vz fi_g, vz la_g, vR ra_g, vz ru_g, vz gr_g, vz wi_g, vz sz_g, vz fl_g, vz ve_g, vz mi_, vR na_g, vR nl_g]) f_PW_152 d_PW_split_195 hb6.2.2 rfl ?_
          refine ab_iload d_PW_split_198 rfl ?_
          have psuI_f_subject : suI o48 G47 f_subject n m := ⟨by_, co, re, ho, f, C, Rs, H, mc, hf_subject, hby_, hco, hre, hho, (by omega), hsu⟩
          refine ab_callV (d' := d - 1) (as := [vz sz_g, vz ct251]) (st := []) (r := _) (z_PW_settle (o := o48) (w_ := w_) (f_ready := f_ready) (f_tape := f_tape) (f_reader := f_reader) (f_programs := f_programs) (f_subject := f_subject) (f_spans := f_spans) (f_threads := f_threads) (f_marks := f_marks) (f_oneMind := f_oneMind) (f_states := f_states) (f_latest := f_latest) (f_matches := f_matches) (f_pieces := f_pieces) (f_template := f_template) (f_result := f_result) (f_spare := f_spare) (cmp := cmp) (ovs := ovs) (cv := cv) (on := on) (nm := nm237) (ns := ns249) (nt := nt) (n := n) (m := m) (z1 := sz_g) (z2 := ct251) hw_ pthI_f_threads pmkI_f_marks pomI_f_oneMind pstI_f_states psuI_f_subject (by omega) (by omega) (by omega)) (fun oc G2 h => by rcases h with ⟨_, h, _⟩ <;> exact ⟨_, h⟩) (by omega) m_PW_settle ml_PW_175 im_PW_settle se_PW_settle c_PW hw_.2.2 (Nat.le_of_ble_eq_true rfl) d_PW_split_200 rfl ?_
          intro v G80 hq
          rcases hq with ⟨ov281, hv, hfk, hlk, hsk, hNw_, pNthI_f_threads, pNmkI_f_marks, pNomI_f_oneMind, pNstI_f_states, pNsuI_f_subject⟩
          cases hv
          have hf_spans := hfk.get hf_spans (by decide)
          have h17 := hfk.get h17 (by decide)
          have hf_programs := hfk.get hf_programs (by decide)
          have hf_pieces := hfk.get hf_pieces (by decide)
          have hb6 := hfk.get hb6 (by simp only [List.mem_cons, List.not_mem_nil, or_false]; omega)
          have hki_g := hfk.get hki_g (by simp only [List.mem_cons, List.not_mem_nil, or_false]; omega)
          have hne_g := hfk.get hne_g (by simp only [List.mem_cons, List.not_mem_nil, or_false]; omega)
          have hot_g := hfk.get hot_g (by simp only [List.mem_cons, List.not_mem_nil, or_false]; omega)
          have hra_g := hfk.get hra_g (by simp only [List.mem_cons, List.not_mem_nil, or_false]; omega)
          have hna_g := hfk.get hna_g (by simp only [List.mem_cons, List.not_mem_nil, or_false]; omega)
          have hnl_g := hfk.get hnl_g (by simp only [List.mem_cons, List.not_mem_nil, or_false]; omega)
          have hit252 := hfk.get hit252 (by decide)
          have ppgX_0 := pgX.fr hfk ppgX_0 (fun xx hx => Or.inl ((show ∀ y ∈ ([18, 32, 44, 50, 60] : List Nat), y < 100 by decide) xx hx))
          have pthI_f_threads := pNthI_f_threads
          have pmkI_f_marks := pNmkI_f_marks
          have pomI_f_oneMind := pNomI_f_oneMind
          have pstI_f_states := pNstI_f_states
          have psuI_f_subject := pNsuI_f_subject
          have hfr := hfr.tr hfk (by decide)
          have hq82 := hlk
          have hq83 := hsk
          have hw_ := hNw_
          change ab_W _ _ _ G80 203 [some (vR w_), none, some (vR b6), none, some (vz ct251), none, none] [] _
          refine ab_aload_n d_PW_split_203 rfl ?_
          refine ab_getf (fs := [vR f_ready, vR f_tape, vR f_reader, vR f_programs, vR f_subject, vR f_spans, vR f_threads, vR f_marks, vR f_oneMind, vR f_states, vR f_latest, vR f_matches, vR f_pieces, vR f_template, vR f_result, vR f_spare, vz cmp, vz ov281]) f_PW_79 d_PW_split_204 hw_.2.2 rfl ?_
          refine ab_getf (fs := [vz 4004, vR it252, vz sz253]) f_PW_101 d_PW_split_207 hf_pieces.2.2 rfl ?_
          refine zz_iconst d_PW_split_210 ?_
          refine zz_idiv d_PW_split_211 (by omega) ?_
          have hmq_ : onq mi_ on := hmi_g
          have ppgB_b6 : pgB o48 G80 b6 (100 + 10 * k_) (NR k_) cv cmp on mi_ := ⟨ki_g, ne_g, ot_g, cnt_g, fi_g, la_g, ra_g, ru_g, gr_g, wi_g, sz_g, fl_g, ve_g, na_g, nl_g, K_g, N_g, O_g, RR_g, NA_g, NL_g, hb6, hki_g, hne_g, hot_g, hra_g, hna_g, hnl_g, (by omega), hpu_g, hp_g, hr_g, hch_g, (by omega), (by omega), (by omega), (by omega), (by omega), hpo_g, hmq_, (by omega), (by omega), jnl_g⟩
          have ppgI_0 := ppgX_0.cls hq7 ppgB_b6
          refine zz_iret rfl d_PW_split_212 ?_
          rw [hQ]; exact (Or.inr ⟨_, _, _, _, _, _, _, _, _, _, rfl, hfr, hw_, hf_spans, hf_pieces, hit252, pthI_f_threads, pmkI_f_marks, pomI_f_oneMind, pstI_f_states, psuI_f_subject, ppgI_0, (by exact hq56), (by omega), (by omega), (by omega)⟩)
        · cases hv
          have hw_ := hfk.get hw_ (by decide)
          have hf_spans := hfk.get hf_spans (by decide)
          have h17 := hfk.get h17 (by decide)
          have hf_programs := hfk.get hf_programs (by decide)
          have hb6 := hfk.get hb6 (by simp only [List.mem_cons, List.not_mem_nil, or_false]; omega)
          have hki_g := hfk.get hki_g (by simp only [List.mem_cons, List.not_mem_nil, or_false]; omega)
          have hne_g := hfk.get hne_g (by simp only [List.mem_cons, List.not_mem_nil, or_false]; omega)
          have hot_g := hfk.get hot_g (by simp only [List.mem_cons, List.not_mem_nil, or_false]; omega)
          have hra_g := hfk.get hra_g (by simp only [List.mem_cons, List.not_mem_nil, or_false]; omega)
          have hna_g := hfk.get hna_g (by simp only [List.mem_cons, List.not_mem_nil, or_false]; omega)
          have hnl_g := hfk.get hnl_g (by simp only [List.mem_cons, List.not_mem_nil, or_false]; omega)
          have hf_subject := hfk.get hf_subject (by decide)
          have hby_ := hfk.get hby_ (by decide)
          have hco := hfk.get hco (by decide)
          have hre := hfk.get hre (by decide)
          have hho := hfk.get hho (by decide)
          have pthI_f_threads := thI.fr hfk pthI_f_threads (by decide) (by decide) (by decide) (by decide) (by decide) (by decide) (by decide) (by decide)
          have pomI_f_oneMind := omI.fr hfk pomI_f_oneMind (by decide) (by decide) (by decide) (by decide) (by decide) (by decide) (by decide) (by decide)
          have pstI_f_states := stI.fr hfk pstI_f_states (by decide) (by decide) (by decide) (by decide) (by decide) (by decide) (by decide) (by decide) (by decide)
          have ppgX_0 := pgX.fr hfk ppgX_0 (fun xx hx => Or.inl ((show ∀ y ∈ ([73, 74] : List Nat), y < 100 by decide) xx hx))
          have pmkI_f_marks := mkI.fr hfk pmkI_f_marks (by decide) (by decide) (by decide) (by decide)
          have hfr := hfr.tr hfk (by decide)
          have hq79 := hfk.1
          have hf_pieces := hNf_pieces
          have hb270 := hNb270
          change ab_W _ _ _ G67 192 [some (vR w_), none, some (vR b6), none, some (vz ct251), none, none] [vz 1] _
          refine ab_pop d_PW_split_192 rfl ?_
          refine ab_aload_n d_PW_split_193 rfl ?_
          refine ab_aload_n d_PW_split_194 rfl ?_
          refine ab_getf (fs := [vR ki_g, vR ne_g, vR ot_g, vz cnt_g, vz fi_g, vz la_g, vR ra_g, vz ru_g, vz gr_g, vz wi_g, vz sz_g, vz fl_g, vz ve_g, vz mi_, vR na_g, vR nl_g]) f_PW_152 d_PW_split_195 hb6.2.2 rfl ?_
          refine ab_iload d_PW_split_198 rfl ?_
          have psuI_f_subject : suI o69 G67 f_subject n m := ⟨by_, co, re, ho, f, C, Rs, H, mc, hf_subject, hby_, hco, hre, hho, (by omega), hsu⟩
          refine ab_callV (d' := d - 1) (as := [vz sz_g, vz ct251]) (st := []) (r := _) (z_PW_settle (o := o69) (w_ := w_) (f_ready := f_ready) (f_tape := f_tape) (f_reader := f_reader) (f_programs := f_programs) (f_subject := f_subject) (f_spans := f_spans) (f_threads := f_threads) (f_marks := f_marks) (f_oneMind := f_oneMind) (f_states := f_states) (f_latest := f_latest) (f_matches := f_matches) (f_pieces := f_pieces) (f_template := f_template) (f_result := f_result) (f_spare := f_spare) (cmp := cmp) (ovs := ovs) (cv := cv) (on := on) (nm := nm237) (ns := ns249) (nt := nt) (n := n) (m := m) (z1 := sz_g) (z2 := ct251) hw_ pthI_f_threads pmkI_f_marks pomI_f_oneMind pstI_f_states psuI_f_subject (by omega) (by omega) (by omega)) (fun oc G2 h => by rcases h with ⟨_, h, _⟩ <;> exact ⟨_, h⟩) (by omega) m_PW_settle ml_PW_175 im_PW_settle se_PW_settle c_PW hw_.2.2 (Nat.le_of_ble_eq_true rfl) d_PW_split_200 rfl ?_
          intro v G84 hq
          rcases hq with ⟨ov285, hv, hfk, hlk, hsk, hNw_, pNthI_f_threads, pNmkI_f_marks, pNomI_f_oneMind, pNstI_f_states, pNsuI_f_subject⟩
          cases hv
          have hf_spans := hfk.get hf_spans (by decide)
          have h17 := hfk.get h17 (by decide)
          have hf_programs := hfk.get hf_programs (by decide)
          have hf_pieces := hfk.get hf_pieces (by decide)
          have hb6 := hfk.get hb6 (by simp only [List.mem_cons, List.not_mem_nil, or_false]; omega)
          have hki_g := hfk.get hki_g (by simp only [List.mem_cons, List.not_mem_nil, or_false]; omega)
          have hne_g := hfk.get hne_g (by simp only [List.mem_cons, List.not_mem_nil, or_false]; omega)
          have hot_g := hfk.get hot_g (by simp only [List.mem_cons, List.not_mem_nil, or_false]; omega)
          have hra_g := hfk.get hra_g (by simp only [List.mem_cons, List.not_mem_nil, or_false]; omega)
          have hna_g := hfk.get hna_g (by simp only [List.mem_cons, List.not_mem_nil, or_false]; omega)
          have hnl_g := hfk.get hnl_g (by simp only [List.mem_cons, List.not_mem_nil, or_false]; omega)
          have hb270 := hfk.get hb270 (by decide)
          have ppgX_0 := pgX.fr hfk ppgX_0 (fun xx hx => Or.inl ((show ∀ y ∈ ([18, 32, 44, 50, 60] : List Nat), y < 100 by decide) xx hx))
          have pthI_f_threads := pNthI_f_threads
          have pmkI_f_marks := pNmkI_f_marks
          have pomI_f_oneMind := pNomI_f_oneMind
          have pstI_f_states := pNstI_f_states
          have psuI_f_subject := pNsuI_f_subject
          have hfr := hfr.tr hfk (by decide)
          have hq86 := hlk
          have hq87 := hsk
          have hw_ := hNw_
          change ab_W _ _ _ G84 203 [some (vR w_), none, some (vR b6), none, some (vz ct251), none, none] [] _
          refine ab_aload_n d_PW_split_203 rfl ?_
          refine ab_getf (fs := [vR f_ready, vR f_tape, vR f_reader, vR f_programs, vR f_subject, vR f_spans, vR f_threads, vR f_marks, vR f_oneMind, vR f_states, vR f_latest, vR f_matches, vR f_pieces, vR f_template, vR f_result, vR f_spare, vz cmp, vz ov285]) f_PW_79 d_PW_split_204 hw_.2.2 rfl ?_
          refine ab_getf (fs := [vz 4004, vR b270, vz (sz253 + 1)]) f_PW_101 d_PW_split_207 hf_pieces.2.2 rfl ?_
          refine zz_iconst d_PW_split_210 ?_
          refine zz_idiv d_PW_split_211 (by omega) ?_
          have hmq_ : onq mi_ on := hmi_g
          have ppgB_b6 : pgB o69 G84 b6 (100 + 10 * k_) (NR k_) cv cmp on mi_ := ⟨ki_g, ne_g, ot_g, cnt_g, fi_g, la_g, ra_g, ru_g, gr_g, wi_g, sz_g, fl_g, ve_g, na_g, nl_g, K_g, N_g, O_g, RR_g, NA_g, NL_g, hb6, hki_g, hne_g, hot_g, hra_g, hna_g, hnl_g, (by omega), hpu_g, hp_g, hr_g, hch_g, (by omega), (by omega), (by omega), (by omega), (by omega), hpo_g, hmq_, (by omega), (by omega), jnl_g⟩
          have ppgI_0 := ppgX_0.cls hq7 ppgB_b6
          refine zz_iret rfl d_PW_split_212 ?_
          rw [hQ]; exact (Or.inr ⟨_, _, _, _, _, _, _, _, _, _, rfl, hfr, hw_, hf_spans, hf_pieces, hb270, pthI_f_threads, pmkI_f_marks, pomI_f_oneMind, pstI_f_states, psuI_f_subject, ppgI_0, (by exact hq56), (by omega), (by omega), (by omega)⟩)
